set_option maxHeartbeats 4000000 in
set_option maxRecDepth 100000 in
theorem c_M_isShelf (l : Launch) (D : va_G) (cI cJ cZ cP cS : ClassId) (m0 mrf mki mpa mta mla msl mco mhe mso msi msh mce mca mwo mnu mte mwa mke mma mth mtr : Nat) (s_ : Int32)  : Met l yX8_isShelf wsX8_isShelf ({ frames := 0, cells := 0, slots := 0, locals := 0 }) (va_Pc [.ref m0, .int s_] (zR D (zKT cI cJ cZ cP cS) [(m0, .inr (8, (.int 0 :: .int 20 :: .int 0 :: .int 0 :: .int 0 :: .int 60 :: .int 0 :: .int 3 :: .int 1 :: .int (-1) :: .ref mrf :: .ref mki :: .ref mpa :: .ref mta :: .ref mla :: .ref msl :: .ref mco :: .ref mhe :: .ref mso :: .ref msi :: .ref msh :: .ref mce :: .ref mca :: .ref mwo :: .ref mnu :: .ref mte :: .int 0 :: .int 0 :: .int 0 :: .int 0 :: .int 0 :: .ref mwa :: .ref mke :: .ref mma :: .ref mth :: .ref mtr :: .int 0 :: .int 0 :: [])))])) (vp_Si (fun r => (r = 0 ∧ s_.toInt < 0) ∨ (r = 0 ∧ 0 ≤ s_.toInt ∧ 8 ≤ s_.toInt) ∨ (r = 1 ∧ 0 ≤ s_.toInt ∧ s_.toInt < 8))) 0 0 (fun _ => False) := by
  refine Met.ofW (cc := cX8_isShelf) (maxL := 2) (ret := (some .boolean)) (by decide) rfl ?_
  intro p e s m args below meth c s₁ B hml hv
  obtain ⟨rfl, hP, hK, hN, hZ⟩ := hv
  have hx := B.exec
  have hb := B.bytes
  have hr := B.returns
  have hts := atoms_spec (ws := wsX8_isShelf) B.pre
  have hown : s.vm.findClass RX8 = some m.cls := findClass_of_methodNamed B.named
  have hlocks := B.notSynchronized
  have hl := lv_entry ([.ref m0, .int s_]) (n := 2) (Nat.le_of_ble_eq_true rfl)
  rw [lg_entry_eq]
  generalize (lg_sl ([.ref m0, .int s_]) ++ List.replicate (2 - (lg_sl ([.ref m0, .int s_])).length) Slot.unset).toArray = ls at hl ⊢
  replace hl : lv_has ls 2 [(0, .ref m0), (1, .int s_)] := hl
  refine lv_iload_n hx hb dX8_isShelf_0 rfl (lv_at hl 1 rfl) ?_
  refine lv_if_lt (tgt := 14) hx hb dX8_isShelf_1 (by decide) (fun c_1 => ?_) (fun c_1 => ?_)
  · have fc_1 : s_.toInt < 0 := zf_lt c_1 rfl (by decide)
    refine lv_iconst (v := 0) hx hb dX8_isShelf_14 (by decide) ?_
    exact W.zret (v := 0) hx hb hr (by decide) (fun t ht hW => ⟨0, rfl, Or.inl (⟨rfl, (by first | omega | decide)⟩), ht⟩) (fun q hq => by cases hq) dX8_isShelf_15
  · have fc_1 : 0 ≤ s_.toInt := zf_nlt c_1 rfl (by decide)
    refine lv_iload_n hx hb dX8_isShelf_4 rfl (lv_at hl 1 rfl) ?_
    refine lv_bipush (v := 8) hx hb dX8_isShelf_5 (by decide) ?_
    refine lv_icmp_ge (tgt := 14) hx hb dX8_isShelf_7 (by decide) (fun c_2 => ?_) (fun c_2 => ?_)
    · have fc_2 : 8 ≤ s_.toInt := zf_le c_2 (by decide) rfl
      refine lv_iconst (v := 0) hx hb dX8_isShelf_14 (by decide) ?_
      exact W.zret (v := 0) hx hb hr (by decide) (fun t ht hW => ⟨0, rfl, Or.inr (Or.inl (⟨rfl, (by first | omega | decide), (by first | omega | decide)⟩)), ht⟩) (fun q hq => by cases hq) dX8_isShelf_15
    · have fc_2 : s_.toInt < 8 := zf_nle c_2 (by decide) rfl
      refine lv_iconst (v := 1) hx hb dX8_isShelf_10 (by decide) ?_
      refine lv_goto (tgt := 15) hx hb dX8_isShelf_11 (by decide) ?_
      exact W.zret (v := 1) hx hb hr (by decide) (fun t ht hW => ⟨1, rfl, Or.inr (Or.inr (⟨rfl, (by first | omega | decide), (by first | omega | decide)⟩)), ht⟩) (fun q hq => by cases hq) dX8_isShelf_15
theorem hi_X8_isPull_8 : ∀ w ∈ u_ws RX8 TX8 38, w ∈ wsX8_isPull := by decide +kernel
set_option maxHeartbeats 4000000 in
set_option maxRecDepth 100000 in
theorem c_M_isPull (l : Launch) (D : va_G) (cI cJ cZ cP cS : ClassId) (m0 mrf mki mpa mta mla msl mco mhe mso msi msh mce mca mwo mnu mte mwa mke mma mth mtr : Nat) (p_ : Int32)  : Met l yX8_isPull wsX8_isPull ({ frames := 0, cells := 0, slots := 0, locals := 0 }) (va_Pc [.ref m0, .int p_] (zR D (zKT cI cJ cZ cP cS) [(m0, .inr (8, (.int 0 :: .int 20 :: .int 0 :: .int 0 :: .int 0 :: .int 60 :: .int 0 :: .int 3 :: .int 1 :: .int (-1) :: .ref mrf :: .ref mki :: .ref mpa :: .ref mta :: .ref mla :: .ref msl :: .ref mco :: .ref mhe :: .ref mso :: .ref msi :: .ref msh :: .ref mce :: .ref mca :: .ref mwo :: .ref mnu :: .ref mte :: .int 0 :: .int 0 :: .int 0 :: .int 0 :: .int 0 :: .ref mwa :: .ref mke :: .ref mma :: .ref mth :: .ref mtr :: .int 0 :: .int 0 :: [])))])) (vp_Si (fun r => (r = 0 ∧ p_.toInt < 0) ∨ (r = 0 ∧ 0 ≤ p_.toInt))) 0 0 (fun _ => False) := by
  refine Met.ofW (cc := cX8_isPull) (maxL := 2) (ret := (some .boolean)) (by decide) rfl ?_
  intro p e s m args below meth c s₁ B hml hv
  obtain ⟨rfl, hP, hK, hN, hZ⟩ := hv
  have hx := B.exec
  have hb := B.bytes
  have hr := B.returns
  have hts := atoms_spec (ws := wsX8_isPull) B.pre
  have hown : s.vm.findClass RX8 = some m.cls := findClass_of_methodNamed B.named
  have hlocks := B.notSynchronized
  have hl := lv_entry ([.ref m0, .int p_]) (n := 2) (Nat.le_of_ble_eq_true rfl)
  rw [lg_entry_eq]
  generalize (lg_sl ([.ref m0, .int p_]) ++ List.replicate (2 - (lg_sl ([.ref m0, .int p_])).length) Slot.unset).toArray = ls at hl ⊢
  replace hl : lv_has ls 2 [(0, .ref m0), (1, .int p_)] := hl
  refine lv_iload_n hx hb dX8_isPull_0 rfl (lv_at hl 1 rfl) ?_
  refine lv_if_lt (tgt := 16) hx hb dX8_isPull_1 (by decide) (fun c_1 => ?_) (fun c_1 => ?_)
  · have fc_1 : p_.toInt < 0 := zf_lt c_1 rfl (by decide)
    refine lv_iconst (v := 0) hx hb dX8_isPull_16 (by decide) ?_
    exact W.zret (v := 0) hx hb hr (by decide) (fun t ht hW => ⟨0, rfl, Or.inl (⟨rfl, (by first | omega | decide)⟩), ht⟩) (fun q hq => by cases hq) dX8_isPull_17
  · have fc_1 : 0 ≤ p_.toInt := zf_nlt c_1 rfl (by decide)
    refine lv_iload_n hx hb dX8_isPull_4 rfl (lv_at hl 1 rfl) ?_
    refine lv_aload_n hx hb dX8_isPull_5 rfl (lv_at hl 0 rfl) ?_
    refine va_get (D := D) (ci := 8) (v := .int 0) (C := RX8) (T := TX8) (N := 38) hx hb hts hi_X8_isPull_8 hown hK hP 0 rfl rfl 0 (by decide) (hts (.fieldLink RX8 90 "TheLiningsInItModel" "pulls" "I") (List.mem_of_getElem? (i := 1) rfl)) (fun _ h9 => h9) rfl dX8_isPull_6 ?_
    refine lv_icmp_ge (tgt := 16) hx hb dX8_isPull_9 (by decide) (fun c_2 => ?_) (fun c_2 => ?_)
    · have fc_2 : 0 ≤ p_.toInt := zf_le c_2 (by decide) rfl
      refine lv_iconst (v := 0) hx hb dX8_isPull_16 (by decide) ?_
      exact W.zret (v := 0) hx hb hr (by decide) (fun t ht hW => ⟨0, rfl, Or.inr (⟨rfl, (by first | omega | decide)⟩), ht⟩) (fun q hq => by cases hq) dX8_isPull_17
    · exfalso; have fc_2 : p_.toInt < 0 := zf_nle c_2 (by decide) rfl; omega
theorem hi_X8_isTooth_8 : ∀ w ∈ u_ws RX8 TX8 38, w ∈ wsX8_isTooth := by decide +kernel
set_option maxHeartbeats 4000000 in
set_option maxRecDepth 100000 in
theorem c_M_isTooth (l : Launch) (D : va_G) (cI cJ cZ cP cS : ClassId) (m0 mrf mki mpa mta mla msl mco mhe mso msi msh mce mca mwo mnu mte mwa mke mma mth mtr : Nat) (t_ : Int32)  : Met l yX8_isTooth wsX8_isTooth ({ frames := 0, cells := 0, slots := 0, locals := 0 }) (va_Pc [.ref m0, .int t_] (zR D (zKT cI cJ cZ cP cS) [(m0, .inr (8, (.int 0 :: .int 20 :: .int 0 :: .int 0 :: .int 0 :: .int 60 :: .int 0 :: .int 3 :: .int 1 :: .int (-1) :: .ref mrf :: .ref mki :: .ref mpa :: .ref mta :: .ref mla :: .ref msl :: .ref mco :: .ref mhe :: .ref mso :: .ref msi :: .ref msh :: .ref mce :: .ref mca :: .ref mwo :: .ref mnu :: .ref mte :: .int 0 :: .int 0 :: .int 0 :: .int 0 :: .int 0 :: .ref mwa :: .ref mke :: .ref mma :: .ref mth :: .ref mtr :: .int 0 :: .int 0 :: [])))])) (vp_Si (fun r => (r = 0 ∧ t_.toInt < 0) ∨ (r = 0 ∧ 0 ≤ t_.toInt ∧ 20 ≤ t_.toInt) ∨ (r = 1 ∧ 0 ≤ t_.toInt ∧ t_.toInt < 20))) 0 0 (fun _ => False) := by
  refine Met.ofW (cc := cX8_isTooth) (maxL := 2) (ret := (some .boolean)) (by decide) rfl ?_
  intro p e s m args below meth c s₁ B hml hv
  obtain ⟨rfl, hP, hK, hN, hZ⟩ := hv
  have hx := B.exec
  have hb := B.bytes
  have hr := B.returns
  have hts := atoms_spec (ws := wsX8_isTooth) B.pre
  have hown : s.vm.findClass RX8 = some m.cls := findClass_of_methodNamed B.named
  have hlocks := B.notSynchronized
  have hl := lv_entry ([.ref m0, .int t_]) (n := 2) (Nat.le_of_ble_eq_true rfl)
  rw [lg_entry_eq]
  generalize (lg_sl ([.ref m0, .int t_]) ++ List.replicate (2 - (lg_sl ([.ref m0, .int t_])).length) Slot.unset).toArray = ls at hl ⊢
  replace hl : lv_has ls 2 [(0, .ref m0), (1, .int t_)] := hl
  refine lv_iload_n hx hb dX8_isTooth_0 rfl (lv_at hl 1 rfl) ?_
  refine lv_if_lt (tgt := 16) hx hb dX8_isTooth_1 (by decide) (fun c_1 => ?_) (fun c_1 => ?_)
  · have fc_1 : t_.toInt < 0 := zf_lt c_1 rfl (by decide)
    refine lv_iconst (v := 0) hx hb dX8_isTooth_16 (by decide) ?_
    exact W.zret (v := 0) hx hb hr (by decide) (fun t ht hW => ⟨0, rfl, Or.inl (⟨rfl, (by first | omega | decide)⟩), ht⟩) (fun q hq => by cases hq) dX8_isTooth_17
  · have fc_1 : 0 ≤ t_.toInt := zf_nlt c_1 rfl (by decide)
    refine lv_iload_n hx hb dX8_isTooth_4 rfl (lv_at hl 1 rfl) ?_
    refine lv_aload_n hx hb dX8_isTooth_5 rfl (lv_at hl 0 rfl) ?_
    refine va_get (D := D) (ci := 8) (v := .int 20) (C := RX8) (T := TX8) (N := 38) hx hb hts hi_X8_isTooth_8 hown hK hP 0 rfl rfl 1 (by decide) (hts (.fieldLink RX8 7 "TheLiningsInItModel" "teeth" "I") (List.mem_of_getElem? (i := 1) rfl)) (fun _ h9 => h9) rfl dX8_isTooth_6 ?_
    refine lv_icmp_ge (tgt := 16) hx hb dX8_isTooth_9 (by decide) (fun c_2 => ?_) (fun c_2 => ?_)
    · have fc_2 : 20 ≤ t_.toInt := zf_le c_2 (by decide) rfl
      refine lv_iconst (v := 0) hx hb dX8_isTooth_16 (by decide) ?_
      exact W.zret (v := 0) hx hb hr (by decide) (fun t ht hW => ⟨0, rfl, Or.inr (Or.inl (⟨rfl, (by first | omega | decide), (by first | omega | decide)⟩)), ht⟩) (fun q hq => by cases hq) dX8_isTooth_17
    · have fc_2 : t_.toInt < 20 := zf_nle c_2 (by decide) rfl
      refine lv_iconst (v := 1) hx hb dX8_isTooth_12 (by decide) ?_
      refine lv_goto (tgt := 17) hx hb dX8_isTooth_13 (by decide) ?_
      exact W.zret (v := 1) hx hb hr (by decide) (fun t ht hW => ⟨1, rfl, Or.inr (Or.inr (⟨rfl, (by first | omega | decide), (by first | omega | decide)⟩)), ht⟩) (fun q hq => by cases hq) dX8_isTooth_17
theorem hi_X8_no_8 : ∀ w ∈ u_ws RX8 TX8 38, w ∈ wsX8_no := by decide +kernel
set_option maxHeartbeats 4000000 in
set_option maxRecDepth 100000 in
theorem c_M_no_1 (l : Launch) (D : va_G) (cI cJ cZ cP cS : ClassId) (m0 mrf mki mpa mta mla msl mco mhe mso msi msh mce mca mwo mnu mte mwa mke mma mth mtr : Nat)   (sz : Nat) : Met l yX8_no wsX8_no ({ frames := 0, cells := 0, slots := 0, locals := 0 }) (va_Pc [.ref m0, .int (-1)] (zW D (zKT cI cJ cZ cP cS) [(m0, .inr (8, (.int 0 :: .int 20 :: .int 0 :: .int 0 :: .int 0 :: .int 60 :: .int 0 :: .int 3 :: .int 1 :: .int (-1) :: .ref mrf :: .ref mki :: .ref mpa :: .ref mta :: .ref mla :: .ref msl :: .ref mco :: .ref mhe :: .ref mso :: .ref msi :: .ref msh :: .ref mce :: .ref mca :: .ref mwo :: .ref mnu :: .ref mte :: .int 0 :: .int 0 :: .int 0 :: .int 0 :: .int 0 :: .ref mwa :: .ref mke :: .ref mma :: .ref mth :: .ref mtr :: .int 0 :: .int 0 :: []))), (mrf, .inl (cI, 8, .inl (fun _ => 0)))] sz)) (va_Qi (fun (r : Int32) (_ : Unit) => r = (-1)) (zB D [(m0, .inr (8, (.int 0 :: .int 20 :: .int 0 :: .int 0 :: .int 0 :: .int 60 :: .int 0 :: .int 3 :: .int 1 :: .int (-1) :: .ref mrf :: .ref mki :: .ref mpa :: .ref mta :: .ref mla :: .ref msl :: .ref mco :: .ref mhe :: .ref mso :: .ref msi :: .ref msh :: .ref mce :: .ref mca :: .ref mwo :: .ref mnu :: .ref mte :: .int 0 :: .int 0 :: .int 0 :: .int 0 :: .int 0 :: .ref mwa :: .ref mke :: .ref mma :: .ref mth :: .ref mtr :: .int 0 :: .int 0 :: []))), (mrf, .inl (cI, 8, .inl (fun _ => 0)))] sz (fun (_ : Unit) => ([] : va_W))) (va_A [(m0, .inr (8, (.int 0 :: .int 20 :: .int 0 :: .int 0 :: .int 0 :: .int 60 :: .int 0 :: .int 3 :: .int 1 :: .int (-1) :: .ref mrf :: .ref mki :: .ref mpa :: .ref mta :: .ref mla :: .ref msl :: .ref mco :: .ref mhe :: .ref mso :: .ref msi :: .ref msh :: .ref mce :: .ref mca :: .ref mwo :: .ref mnu :: .ref mte :: .int 0 :: .int 0 :: .int 0 :: .int 0 :: .int 0 :: .ref mwa :: .ref mke :: .ref mma :: .ref mth :: .ref mtr :: .int 0 :: .int 0 :: []))), (mrf, .inl (cI, 8, .inl (fun _ => 0)))] sz)) 0 0 (va_A [(m0, .inr (8, (.int 0 :: .int 20 :: .int 0 :: .int 0 :: .int 0 :: .int 60 :: .int 0 :: .int 3 :: .int 1 :: .int (-1) :: .ref mrf :: .ref mki :: .ref mpa :: .ref mta :: .ref mla :: .ref msl :: .ref mco :: .ref mhe :: .ref mso :: .ref msi :: .ref msh :: .ref mce :: .ref mca :: .ref mwo :: .ref mnu :: .ref mte :: .int 0 :: .int 0 :: .int 0 :: .int 0 :: .int 0 :: .ref mwa :: .ref mke :: .ref mma :: .ref mth :: .ref mtr :: .int 0 :: .int 0 :: []))), (mrf, .inl (cI, 8, .inl (fun _ => 0)))] sz) := by
  refine Met.ofW (cc := cX8_no) (maxL := 2) (ret := (some .int)) (by decide) rfl ?_
  intro p e s m args below meth c s₁ B hml hv
  obtain ⟨rfl, hsz, hP, hK, hD0, hN, hZ⟩ := hv
  have hx := B.exec
  have hb := B.bytes
  have hr := B.returns
  have hts := atoms_spec (ws := wsX8_no) B.pre
  have hown : s.vm.findClass RX8 = some m.cls := findClass_of_methodNamed B.named
  have hlocks := B.notSynchronized
  subst hsz
  have hD := hD0.self (sz := s.heap.size)
  have hA : ∀ q : Nat, s.heap.size ≤ q → va_A [(m0, .inr (8, (.int 0 :: .int 20 :: .int 0 :: .int 0 :: .int 0 :: .int 60 :: .int 0 :: .int 3 :: .int 1 :: .int (-1) :: .ref mrf :: .ref mki :: .ref mpa :: .ref mta :: .ref mla :: .ref msl :: .ref mco :: .ref mhe :: .ref mso :: .ref msi :: .ref msh :: .ref mce :: .ref mca :: .ref mwo :: .ref mnu :: .ref mte :: .int 0 :: .int 0 :: .int 0 :: .int 0 :: .int 0 :: .ref mwa :: .ref mke :: .ref mma :: .ref mth :: .ref mtr :: .int 0 :: .int 0 :: []))), (mrf, .inl (cI, 8, .inl (fun _ => 0)))] s.heap.size q := fun q h => Or.inr h
  have hS : va_S (va_A [(m0, .inr (8, (.int 0 :: .int 20 :: .int 0 :: .int 0 :: .int 0 :: .int 60 :: .int 0 :: .int 3 :: .int 1 :: .int (-1) :: .ref mrf :: .ref mki :: .ref mpa :: .ref mta :: .ref mla :: .ref msl :: .ref mco :: .ref mhe :: .ref mso :: .ref msi :: .ref msh :: .ref mce :: .ref mca :: .ref mwo :: .ref mnu :: .ref mte :: .int 0 :: .int 0 :: .int 0 :: .int 0 :: .int 0 :: .ref mwa :: .ref mke :: .ref mma :: .ref mth :: .ref mtr :: .int 0 :: .int 0 :: []))), (mrf, .inl (cI, 8, .inl (fun _ => 0)))] s.heap.size) s.heap s.heap [] := va_S.rf
  replace hP : va_P D vwCl _ s.heap := hP
  have hl := lv_entry ([.ref m0, .int (-1)]) (n := 2) (Nat.le_of_ble_eq_true rfl)
  rw [lg_entry_eq]
  generalize (lg_sl ([.ref m0, .int (-1)]) ++ List.replicate (2 - (lg_sl ([.ref m0, .int (-1)])).length) Slot.unset).toArray = ls at hl ⊢
  replace hl : lv_has ls 2 [(0, .ref m0), (1, .int (-1))] := hl
  refine zw_start (fun H locs hH hL => ?_)
  replace hP : va_P D vwCl [(m0, .inr (8, (.int 0 :: .int 20 :: .int 0 :: .int 0 :: .int 0 :: .int 60 :: .int 0 :: .int 3 :: .int 1 :: .int (-1) :: .ref mrf :: .ref mki :: .ref mpa :: .ref mta :: .ref mla :: .ref msl :: .ref mco :: .ref mhe :: .ref mso :: .ref msi :: .ref msh :: .ref mce :: .ref mca :: .ref mwo :: .ref mnu :: .ref mte :: .int 0 :: .int 0 :: .int 0 :: .int 0 :: .int 0 :: .ref mwa :: .ref mke :: .ref mma :: .ref mth :: .ref mtr :: .int 0 :: .int 0 :: []))), (mrf, .inl (cI, 8, .inl (fun _ => 0)))] H := by rw [hH]; exact hP
  replace hS : va_S (va_A [(m0, .inr (8, (.int 0 :: .int 20 :: .int 0 :: .int 0 :: .int 0 :: .int 60 :: .int 0 :: .int 3 :: .int 1 :: .int (-1) :: .ref mrf :: .ref mki :: .ref mpa :: .ref mta :: .ref mla :: .ref msl :: .ref mco :: .ref mhe :: .ref mso :: .ref msi :: .ref msh :: .ref mce :: .ref mca :: .ref mwo :: .ref mnu :: .ref mte :: .int 0 :: .int 0 :: .int 0 :: .int 0 :: .int 0 :: .ref mwa :: .ref mke :: .ref mma :: .ref mth :: .ref mtr :: .int 0 :: .int 0 :: []))), (mrf, .inl (cI, 8, .inl (fun _ => 0)))] s.heap.size) s.heap H locs := by rw [hH, hL]; exact hS
  clear hH hL
  refine lv_aload_n hx hb dX8_no_0 rfl (lv_at hl 0 rfl) ?_
  refine va_get (D := D) (ci := 8) (v := .ref mrf) (C := RX8) (T := TX8) (N := 38) hx hb hts hi_X8_no_8 hown hK hP 0 rfl rfl 10 (by decide) (hts (.fieldLink RX8 25 "TheLiningsInItModel" "refused" "[I") (List.mem_of_getElem? (i := 1) rfl)) (fun _ h9 => h9) rfl dX8_no_1 ?_
  refine lv_iload_n hx hb dX8_no_4 rfl (lv_at hl 1 rfl) ?_
  refine lv_ineg hx hb dX8_no_5 ?_
  refine lv_topi (fun y_1 ey_1 => ?_)
  obtain rfl : y_1 = 1 := ey_1.trans (by decide)
  refine lv_dup2_11 hx hb dX8_no_6 rfl rfl ?_
  refine va_iald hx hb hK hP 1 0 rfl rfl (zf_in (by decide) (by decide)) dX8_no_7 ?_
  refine lv_topi (fun x_2 ex_2 => ?_)
  obtain rfl : x_2 = 0 := ex_2
  refine lv_iconst (v := 1) hx hb dX8_no_8 (by decide) ?_
  refine lv_iadd hx hb dX8_no_9 ?_
  refine lv_topi (fun y_3 ey_3 => ?_)
  obtain rfl : y_3 = 1 := ey_3.trans (by decide)
  refine va_iast hx hb hK hP hD hS 1 0 rfl rfl (zf_in (by decide) (by decide)) dX8_no_10 (fun H locs hP hD hS => ?_)
  refine lv_iload_n hx hb dX8_no_11 rfl (lv_at hl 1 rfl) ?_
  exact W.iret (v := (-1)) hx hb hr (fun t ht hW => ⟨⟨(-1), (), rfl, rfl, zP_nil, zD_nil⟩, hS.F ht⟩) hS.2.2 dX8_no_12
set_option maxHeartbeats 4000000 in
set_option maxRecDepth 100000 in
theorem c_M_no_2 (l : Launch) (D : va_G) (cI cJ cZ cP cS : ClassId) (m0 mrf mki mpa mta mla msl mco mhe mso msi msh mce mca mwo mnu mte mwa mke mma mth mtr : Nat)   (sz : Nat) : Met l yX8_no wsX8_no ({ frames := 0, cells := 0, slots := 0, locals := 0 }) (va_Pc [.ref m0, .int (-2)] (zW D (zKT cI cJ cZ cP cS) [(m0, .inr (8, (.int 0 :: .int 20 :: .int 0 :: .int 0 :: .int 0 :: .int 60 :: .int 0 :: .int 3 :: .int 1 :: .int (-1) :: .ref mrf :: .ref mki :: .ref mpa :: .ref mta :: .ref mla :: .ref msl :: .ref mco :: .ref mhe :: .ref mso :: .ref msi :: .ref msh :: .ref mce :: .ref mca :: .ref mwo :: .ref mnu :: .ref mte :: .int 0 :: .int 0 :: .int 0 :: .int 0 :: .int 0 :: .ref mwa :: .ref mke :: .ref mma :: .ref mth :: .ref mtr :: .int 0 :: .int 0 :: []))), (mrf, .inl (cI, 8, .inl (fun _ => 0)))] sz)) (va_Qi (fun (r : Int32) (_ : Unit) => r = (-2)) (zB D [(m0, .inr (8, (.int 0 :: .int 20 :: .int 0 :: .int 0 :: .int 0 :: .int 60 :: .int 0 :: .int 3 :: .int 1 :: .int (-1) :: .ref mrf :: .ref mki :: .ref mpa :: .ref mta :: .ref mla :: .ref msl :: .ref mco :: .ref mhe :: .ref mso :: .ref msi :: .ref msh :: .ref mce :: .ref mca :: .ref mwo :: .ref mnu :: .ref mte :: .int 0 :: .int 0 :: .int 0 :: .int 0 :: .int 0 :: .ref mwa :: .ref mke :: .ref mma :: .ref mth :: .ref mtr :: .int 0 :: .int 0 :: []))), (mrf, .inl (cI, 8, .inl (fun _ => 0)))] sz (fun (_ : Unit) => ([] : va_W))) (va_A [(m0, .inr (8, (.int 0 :: .int 20 :: .int 0 :: .int 0 :: .int 0 :: .int 60 :: .int 0 :: .int 3 :: .int 1 :: .int (-1) :: .ref mrf :: .ref mki :: .ref mpa :: .ref mta :: .ref mla :: .ref msl :: .ref mco :: .ref mhe :: .ref mso :: .ref msi :: .ref msh :: .ref mce :: .ref mca :: .ref mwo :: .ref mnu :: .ref mte :: .int 0 :: .int 0 :: .int 0 :: .int 0 :: .int 0 :: .ref mwa :: .ref mke :: .ref mma :: .ref mth :: .ref mtr :: .int 0 :: .int 0 :: []))), (mrf, .inl (cI, 8, .inl (fun _ => 0)))] sz)) 0 0 (va_A [(m0, .inr (8, (.int 0 :: .int 20 :: .int 0 :: .int 0 :: .int 0 :: .int 60 :: .int 0 :: .int 3 :: .int 1 :: .int (-1) :: .ref mrf :: .ref mki :: .ref mpa :: .ref mta :: .ref mla :: .ref msl :: .ref mco :: .ref mhe :: .ref mso :: .ref msi :: .ref msh :: .ref mce :: .ref mca :: .ref mwo :: .ref mnu :: .ref mte :: .int 0 :: .int 0 :: .int 0 :: .int 0 :: .int 0 :: .ref mwa :: .ref mke :: .ref mma :: .ref mth :: .ref mtr :: .int 0 :: .int 0 :: []))), (mrf, .inl (cI, 8, .inl (fun _ => 0)))] sz) := by
  refine Met.ofW (cc := cX8_no) (maxL := 2) (ret := (some .int)) (by decide) rfl ?_
  intro p e s m args below meth c s₁ B hml hv
  obtain ⟨rfl, hsz, hP, hK, hD0, hN, hZ⟩ := hv
  have hx := B.exec
  have hb := B.bytes
  have hr := B.returns
  have hts := atoms_spec (ws := wsX8_no) B.pre
  have hown : s.vm.findClass RX8 = some m.cls := findClass_of_methodNamed B.named
  have hlocks := B.notSynchronized
  subst hsz
  have hD := hD0.self (sz := s.heap.size)
  have hA : ∀ q : Nat, s.heap.size ≤ q → va_A [(m0, .inr (8, (.int 0 :: .int 20 :: .int 0 :: .int 0 :: .int 0 :: .int 60 :: .int 0 :: .int 3 :: .int 1 :: .int (-1) :: .ref mrf :: .ref mki :: .ref mpa :: .ref mta :: .ref mla :: .ref msl :: .ref mco :: .ref mhe :: .ref mso :: .ref msi :: .ref msh :: .ref mce :: .ref mca :: .ref mwo :: .ref mnu :: .ref mte :: .int 0 :: .int 0 :: .int 0 :: .int 0 :: .int 0 :: .ref mwa :: .ref mke :: .ref mma :: .ref mth :: .ref mtr :: .int 0 :: .int 0 :: []))), (mrf, .inl (cI, 8, .inl (fun _ => 0)))] s.heap.size q := fun q h => Or.inr h
  have hS : va_S (va_A [(m0, .inr (8, (.int 0 :: .int 20 :: .int 0 :: .int 0 :: .int 0 :: .int 60 :: .int 0 :: .int 3 :: .int 1 :: .int (-1) :: .ref mrf :: .ref mki :: .ref mpa :: .ref mta :: .ref mla :: .ref msl :: .ref mco :: .ref mhe :: .ref mso :: .ref msi :: .ref msh :: .ref mce :: .ref mca :: .ref mwo :: .ref mnu :: .ref mte :: .int 0 :: .int 0 :: .int 0 :: .int 0 :: .int 0 :: .ref mwa :: .ref mke :: .ref mma :: .ref mth :: .ref mtr :: .int 0 :: .int 0 :: []))), (mrf, .inl (cI, 8, .inl (fun _ => 0)))] s.heap.size) s.heap s.heap [] := va_S.rf
  replace hP : va_P D vwCl _ s.heap := hP
  have hl := lv_entry ([.ref m0, .int (-2)]) (n := 2) (Nat.le_of_ble_eq_true rfl)
  rw [lg_entry_eq]
  generalize (lg_sl ([.ref m0, .int (-2)]) ++ List.replicate (2 - (lg_sl ([.ref m0, .int (-2)])).length) Slot.unset).toArray = ls at hl ⊢
  replace hl : lv_has ls 2 [(0, .ref m0), (1, .int (-2))] := hl
  refine zw_start (fun H locs hH hL => ?_)
  replace hP : va_P D vwCl [(m0, .inr (8, (.int 0 :: .int 20 :: .int 0 :: .int 0 :: .int 0 :: .int 60 :: .int 0 :: .int 3 :: .int 1 :: .int (-1) :: .ref mrf :: .ref mki :: .ref mpa :: .ref mta :: .ref mla :: .ref msl :: .ref mco :: .ref mhe :: .ref mso :: .ref msi :: .ref msh :: .ref mce :: .ref mca :: .ref mwo :: .ref mnu :: .ref mte :: .int 0 :: .int 0 :: .int 0 :: .int 0 :: .int 0 :: .ref mwa :: .ref mke :: .ref mma :: .ref mth :: .ref mtr :: .int 0 :: .int 0 :: []))), (mrf, .inl (cI, 8, .inl (fun _ => 0)))] H := by rw [hH]; exact hP
  replace hS : va_S (va_A [(m0, .inr (8, (.int 0 :: .int 20 :: .int 0 :: .int 0 :: .int 0 :: .int 60 :: .int 0 :: .int 3 :: .int 1 :: .int (-1) :: .ref mrf :: .ref mki :: .ref mpa :: .ref mta :: .ref mla :: .ref msl :: .ref mco :: .ref mhe :: .ref mso :: .ref msi :: .ref msh :: .ref mce :: .ref mca :: .ref mwo :: .ref mnu :: .ref mte :: .int 0 :: .int 0 :: .int 0 :: .int 0 :: .int 0 :: .ref mwa :: .ref mke :: .ref mma :: .ref mth :: .ref mtr :: .int 0 :: .int 0 :: []))), (mrf, .inl (cI, 8, .inl (fun _ => 0)))] s.heap.size) s.heap H locs := by rw [hH, hL]; exact hS
  clear hH hL
  refine lv_aload_n hx hb dX8_no_0 rfl (lv_at hl 0 rfl) ?_
  refine va_get (D := D) (ci := 8) (v := .ref mrf) (C := RX8) (T := TX8) (N := 38) hx hb hts hi_X8_no_8 hown hK hP 0 rfl rfl 10 (by decide) (hts (.fieldLink RX8 25 "TheLiningsInItModel" "refused" "[I") (List.mem_of_getElem? (i := 1) rfl)) (fun _ h9 => h9) rfl dX8_no_1 ?_
  refine lv_iload_n hx hb dX8_no_4 rfl (lv_at hl 1 rfl) ?_
  refine lv_ineg hx hb dX8_no_5 ?_
  refine lv_topi (fun y_1 ey_1 => ?_)
  obtain rfl : y_1 = 2 := ey_1.trans (by decide)
  refine lv_dup2_11 hx hb dX8_no_6 rfl rfl ?_
  refine va_iald hx hb hK hP 1 0 rfl rfl (zf_in (by decide) (by decide)) dX8_no_7 ?_
  refine lv_topi (fun x_2 ex_2 => ?_)
  obtain rfl : x_2 = 0 := ex_2
  refine lv_iconst (v := 1) hx hb dX8_no_8 (by decide) ?_
  refine lv_iadd hx hb dX8_no_9 ?_
  refine lv_topi (fun y_3 ey_3 => ?_)
  obtain rfl : y_3 = 1 := ey_3.trans (by decide)
  refine va_iast hx hb hK hP hD hS 1 0 rfl rfl (zf_in (by decide) (by decide)) dX8_no_10 (fun H locs hP hD hS => ?_)
  refine lv_iload_n hx hb dX8_no_11 rfl (lv_at hl 1 rfl) ?_
  exact W.iret (v := (-2)) hx hb hr (fun t ht hW => ⟨⟨(-2), (), rfl, rfl, zP_nil, zD_nil⟩, hS.F ht⟩) hS.2.2 dX8_no_12
set_option maxHeartbeats 4000000 in
set_option maxRecDepth 100000 in
theorem c_M_no_3 (l : Launch) (D : va_G) (cI cJ cZ cP cS : ClassId) (m0 mrf mki mpa mta mla msl mco mhe mso msi msh mce mca mwo mnu mte mwa mke mma mth mtr : Nat)   (sz : Nat) : Met l yX8_no wsX8_no ({ frames := 0, cells := 0, slots := 0, locals := 0 }) (va_Pc [.ref m0, .int (-3)] (zW D (zKT cI cJ cZ cP cS) [(m0, .inr (8, (.int 0 :: .int 20 :: .int 0 :: .int 0 :: .int 0 :: .int 60 :: .int 0 :: .int 3 :: .int 1 :: .int (-1) :: .ref mrf :: .ref mki :: .ref mpa :: .ref mta :: .ref mla :: .ref msl :: .ref mco :: .ref mhe :: .ref mso :: .ref msi :: .ref msh :: .ref mce :: .ref mca :: .ref mwo :: .ref mnu :: .ref mte :: .int 0 :: .int 0 :: .int 0 :: .int 0 :: .int 0 :: .ref mwa :: .ref mke :: .ref mma :: .ref mth :: .ref mtr :: .int 0 :: .int 0 :: []))), (mrf, .inl (cI, 8, .inl (fun _ => 0)))] sz)) (va_Qi (fun (r : Int32) (_ : Unit) => r = (-3)) (zB D [(m0, .inr (8, (.int 0 :: .int 20 :: .int 0 :: .int 0 :: .int 0 :: .int 60 :: .int 0 :: .int 3 :: .int 1 :: .int (-1) :: .ref mrf :: .ref mki :: .ref mpa :: .ref mta :: .ref mla :: .ref msl :: .ref mco :: .ref mhe :: .ref mso :: .ref msi :: .ref msh :: .ref mce :: .ref mca :: .ref mwo :: .ref mnu :: .ref mte :: .int 0 :: .int 0 :: .int 0 :: .int 0 :: .int 0 :: .ref mwa :: .ref mke :: .ref mma :: .ref mth :: .ref mtr :: .int 0 :: .int 0 :: []))), (mrf, .inl (cI, 8, .inl (fun _ => 0)))] sz (fun (_ : Unit) => ([] : va_W))) (va_A [(m0, .inr (8, (.int 0 :: .int 20 :: .int 0 :: .int 0 :: .int 0 :: .int 60 :: .int 0 :: .int 3 :: .int 1 :: .int (-1) :: .ref mrf :: .ref mki :: .ref mpa :: .ref mta :: .ref mla :: .ref msl :: .ref mco :: .ref mhe :: .ref mso :: .ref msi :: .ref msh :: .ref mce :: .ref mca :: .ref mwo :: .ref mnu :: .ref mte :: .int 0 :: .int 0 :: .int 0 :: .int 0 :: .int 0 :: .ref mwa :: .ref mke :: .ref mma :: .ref mth :: .ref mtr :: .int 0 :: .int 0 :: []))), (mrf, .inl (cI, 8, .inl (fun _ => 0)))] sz)) 0 0 (va_A [(m0, .inr (8, (.int 0 :: .int 20 :: .int 0 :: .int 0 :: .int 0 :: .int 60 :: .int 0 :: .int 3 :: .int 1 :: .int (-1) :: .ref mrf :: .ref mki :: .ref mpa :: .ref mta :: .ref mla :: .ref msl :: .ref mco :: .ref mhe :: .ref mso :: .ref msi :: .ref msh :: .ref mce :: .ref mca :: .ref mwo :: .ref mnu :: .ref mte :: .int 0 :: .int 0 :: .int 0 :: .int 0 :: .int 0 :: .ref mwa :: .ref mke :: .ref mma :: .ref mth :: .ref mtr :: .int 0 :: .int 0 :: []))), (mrf, .inl (cI, 8, .inl (fun _ => 0)))] sz) := by
  refine Met.ofW (cc := cX8_no) (maxL := 2) (ret := (some .int)) (by decide) rfl ?_
  intro p e s m args below meth c s₁ B hml hv
  obtain ⟨rfl, hsz, hP, hK, hD0, hN, hZ⟩ := hv
  have hx := B.exec
  have hb := B.bytes
  have hr := B.returns
  have hts := atoms_spec (ws := wsX8_no) B.pre
  have hown : s.vm.findClass RX8 = some m.cls := findClass_of_methodNamed B.named
  have hlocks := B.notSynchronized
  subst hsz
  have hD := hD0.self (sz := s.heap.size)
  have hA : ∀ q : Nat, s.heap.size ≤ q → va_A [(m0, .inr (8, (.int 0 :: .int 20 :: .int 0 :: .int 0 :: .int 0 :: .int 60 :: .int 0 :: .int 3 :: .int 1 :: .int (-1) :: .ref mrf :: .ref mki :: .ref mpa :: .ref mta :: .ref mla :: .ref msl :: .ref mco :: .ref mhe :: .ref mso :: .ref msi :: .ref msh :: .ref mce :: .ref mca :: .ref mwo :: .ref mnu :: .ref mte :: .int 0 :: .int 0 :: .int 0 :: .int 0 :: .int 0 :: .ref mwa :: .ref mke :: .ref mma :: .ref mth :: .ref mtr :: .int 0 :: .int 0 :: []))), (mrf, .inl (cI, 8, .inl (fun _ => 0)))] s.heap.size q := fun q h => Or.inr h
  have hS : va_S (va_A [(m0, .inr (8, (.int 0 :: .int 20 :: .int 0 :: .int 0 :: .int 0 :: .int 60 :: .int 0 :: .int 3 :: .int 1 :: .int (-1) :: .ref mrf :: .ref mki :: .ref mpa :: .ref mta :: .ref mla :: .ref msl :: .ref mco :: .ref mhe :: .ref mso :: .ref msi :: .ref msh :: .ref mce :: .ref mca :: .ref mwo :: .ref mnu :: .ref mte :: .int 0 :: .int 0 :: .int 0 :: .int 0 :: .int 0 :: .ref mwa :: .ref mke :: .ref mma :: .ref mth :: .ref mtr :: .int 0 :: .int 0 :: []))), (mrf, .inl (cI, 8, .inl (fun _ => 0)))] s.heap.size) s.heap s.heap [] := va_S.rf
  replace hP : va_P D vwCl _ s.heap := hP
  have hl := lv_entry ([.ref m0, .int (-3)]) (n := 2) (Nat.le_of_ble_eq_true rfl)
  rw [lg_entry_eq]
  generalize (lg_sl ([.ref m0, .int (-3)]) ++ List.replicate (2 - (lg_sl ([.ref m0, .int (-3)])).length) Slot.unset).toArray = ls at hl ⊢
  replace hl : lv_has ls 2 [(0, .ref m0), (1, .int (-3))] := hl
  refine zw_start (fun H locs hH hL => ?_)
  replace hP : va_P D vwCl [(m0, .inr (8, (.int 0 :: .int 20 :: .int 0 :: .int 0 :: .int 0 :: .int 60 :: .int 0 :: .int 3 :: .int 1 :: .int (-1) :: .ref mrf :: .ref mki :: .ref mpa :: .ref mta :: .ref mla :: .ref msl :: .ref mco :: .ref mhe :: .ref mso :: .ref msi :: .ref msh :: .ref mce :: .ref mca :: .ref mwo :: .ref mnu :: .ref mte :: .int 0 :: .int 0 :: .int 0 :: .int 0 :: .int 0 :: .ref mwa :: .ref mke :: .ref mma :: .ref mth :: .ref mtr :: .int 0 :: .int 0 :: []))), (mrf, .inl (cI, 8, .inl (fun _ => 0)))] H := by rw [hH]; exact hP
  replace hS : va_S (va_A [(m0, .inr (8, (.int 0 :: .int 20 :: .int 0 :: .int 0 :: .int 0 :: .int 60 :: .int 0 :: .int 3 :: .int 1 :: .int (-1) :: .ref mrf :: .ref mki :: .ref mpa :: .ref mta :: .ref mla :: .ref msl :: .ref mco :: .ref mhe :: .ref mso :: .ref msi :: .ref msh :: .ref mce :: .ref mca :: .ref mwo :: .ref mnu :: .ref mte :: .int 0 :: .int 0 :: .int 0 :: .int 0 :: .int 0 :: .ref mwa :: .ref mke :: .ref mma :: .ref mth :: .ref mtr :: .int 0 :: .int 0 :: []))), (mrf, .inl (cI, 8, .inl (fun _ => 0)))] s.heap.size) s.heap H locs := by rw [hH, hL]; exact hS
  clear hH hL
  refine lv_aload_n hx hb dX8_no_0 rfl (lv_at hl 0 rfl) ?_
  refine va_get (D := D) (ci := 8) (v := .ref mrf) (C := RX8) (T := TX8) (N := 38) hx hb hts hi_X8_no_8 hown hK hP 0 rfl rfl 10 (by decide) (hts (.fieldLink RX8 25 "TheLiningsInItModel" "refused" "[I") (List.mem_of_getElem? (i := 1) rfl)) (fun _ h9 => h9) rfl dX8_no_1 ?_
  refine lv_iload_n hx hb dX8_no_4 rfl (lv_at hl 1 rfl) ?_
  refine lv_ineg hx hb dX8_no_5 ?_
  refine lv_topi (fun y_1 ey_1 => ?_)
  obtain rfl : y_1 = 3 := ey_1.trans (by decide)
  refine lv_dup2_11 hx hb dX8_no_6 rfl rfl ?_
  refine va_iald hx hb hK hP 1 0 rfl rfl (zf_in (by decide) (by decide)) dX8_no_7 ?_
  refine lv_topi (fun x_2 ex_2 => ?_)
  obtain rfl : x_2 = 0 := ex_2
  refine lv_iconst (v := 1) hx hb dX8_no_8 (by decide) ?_
  refine lv_iadd hx hb dX8_no_9 ?_
  refine lv_topi (fun y_3 ey_3 => ?_)
  obtain rfl : y_3 = 1 := ey_3.trans (by decide)
  refine va_iast hx hb hK hP hD hS 1 0 rfl rfl (zf_in (by decide) (by decide)) dX8_no_10 (fun H locs hP hD hS => ?_)
  refine lv_iload_n hx hb dX8_no_11 rfl (lv_at hl 1 rfl) ?_
  exact W.iret (v := (-3)) hx hb hr (fun t ht hW => ⟨⟨(-3), (), rfl, rfl, zP_nil, zD_nil⟩, hS.F ht⟩) hS.2.2 dX8_no_12
set_option maxHeartbeats 4000000 in
set_option maxRecDepth 100000 in
theorem c_M_no_4 (l : Launch) (D : va_G) (cI cJ cZ cP cS : ClassId) (m0 mrf mki mpa mta mla msl mco mhe mso msi msh mce mca mwo mnu mte mwa mke mma mth mtr : Nat)   (sz : Nat) : Met l yX8_no wsX8_no ({ frames := 0, cells := 0, slots := 0, locals := 0 }) (va_Pc [.ref m0, .int (-4)] (zW D (zKT cI cJ cZ cP cS) [(m0, .inr (8, (.int 0 :: .int 20 :: .int 0 :: .int 0 :: .int 0 :: .int 60 :: .int 0 :: .int 3 :: .int 1 :: .int (-1) :: .ref mrf :: .ref mki :: .ref mpa :: .ref mta :: .ref mla :: .ref msl :: .ref mco :: .ref mhe :: .ref mso :: .ref msi :: .ref msh :: .ref mce :: .ref mca :: .ref mwo :: .ref mnu :: .ref mte :: .int 0 :: .int 0 :: .int 0 :: .int 0 :: .int 0 :: .ref mwa :: .ref mke :: .ref mma :: .ref mth :: .ref mtr :: .int 0 :: .int 0 :: []))), (mrf, .inl (cI, 8, .inl (fun _ => 0)))] sz)) (va_Qi (fun (r : Int32) (_ : Unit) => r = (-4)) (zB D [(m0, .inr (8, (.int 0 :: .int 20 :: .int 0 :: .int 0 :: .int 0 :: .int 60 :: .int 0 :: .int 3 :: .int 1 :: .int (-1) :: .ref mrf :: .ref mki :: .ref mpa :: .ref mta :: .ref mla :: .ref msl :: .ref mco :: .ref mhe :: .ref mso :: .ref msi :: .ref msh :: .ref mce :: .ref mca :: .ref mwo :: .ref mnu :: .ref mte :: .int 0 :: .int 0 :: .int 0 :: .int 0 :: .int 0 :: .ref mwa :: .ref mke :: .ref mma :: .ref mth :: .ref mtr :: .int 0 :: .int 0 :: []))), (mrf, .inl (cI, 8, .inl (fun _ => 0)))] sz (fun (_ : Unit) => ([] : va_W))) (va_A [(m0, .inr (8, (.int 0 :: .int 20 :: .int 0 :: .int 0 :: .int 0 :: .int 60 :: .int 0 :: .int 3 :: .int 1 :: .int (-1) :: .ref mrf :: .ref mki :: .ref mpa :: .ref mta :: .ref mla :: .ref msl :: .ref mco :: .ref mhe :: .ref mso :: .ref msi :: .ref msh :: .ref mce :: .ref mca :: .ref mwo :: .ref mnu :: .ref mte :: .int 0 :: .int 0 :: .int 0 :: .int 0 :: .int 0 :: .ref mwa :: .ref mke :: .ref mma :: .ref mth :: .ref mtr :: .int 0 :: .int 0 :: []))), (mrf, .inl (cI, 8, .inl (fun _ => 0)))] sz)) 0 0 (va_A [(m0, .inr (8, (.int 0 :: .int 20 :: .int 0 :: .int 0 :: .int 0 :: .int 60 :: .int 0 :: .int 3 :: .int 1 :: .int (-1) :: .ref mrf :: .ref mki :: .ref mpa :: .ref mta :: .ref mla :: .ref msl :: .ref mco :: .ref mhe :: .ref mso :: .ref msi :: .ref msh :: .ref mce :: .ref mca :: .ref mwo :: .ref mnu :: .ref mte :: .int 0 :: .int 0 :: .int 0 :: .int 0 :: .int 0 :: .ref mwa :: .ref mke :: .ref mma :: .ref mth :: .ref mtr :: .int 0 :: .int 0 :: []))), (mrf, .inl (cI, 8, .inl (fun _ => 0)))] sz) := by
  refine Met.ofW (cc := cX8_no) (maxL := 2) (ret := (some .int)) (by decide) rfl ?_
  intro p e s m args below meth c s₁ B hml hv
  obtain ⟨rfl, hsz, hP, hK, hD0, hN, hZ⟩ := hv
  have hx := B.exec
  have hb := B.bytes
  have hr := B.returns
  have hts := atoms_spec (ws := wsX8_no) B.pre
  have hown : s.vm.findClass RX8 = some m.cls := findClass_of_methodNamed B.named
  have hlocks := B.notSynchronized
  subst hsz
  have hD := hD0.self (sz := s.heap.size)
  have hA : ∀ q : Nat, s.heap.size ≤ q → va_A [(m0, .inr (8, (.int 0 :: .int 20 :: .int 0 :: .int 0 :: .int 0 :: .int 60 :: .int 0 :: .int 3 :: .int 1 :: .int (-1) :: .ref mrf :: .ref mki :: .ref mpa :: .ref mta :: .ref mla :: .ref msl :: .ref mco :: .ref mhe :: .ref mso :: .ref msi :: .ref msh :: .ref mce :: .ref mca :: .ref mwo :: .ref mnu :: .ref mte :: .int 0 :: .int 0 :: .int 0 :: .int 0 :: .int 0 :: .ref mwa :: .ref mke :: .ref mma :: .ref mth :: .ref mtr :: .int 0 :: .int 0 :: []))), (mrf, .inl (cI, 8, .inl (fun _ => 0)))] s.heap.size q := fun q h => Or.inr h
  have hS : va_S (va_A [(m0, .inr (8, (.int 0 :: .int 20 :: .int 0 :: .int 0 :: .int 0 :: .int 60 :: .int 0 :: .int 3 :: .int 1 :: .int (-1) :: .ref mrf :: .ref mki :: .ref mpa :: .ref mta :: .ref mla :: .ref msl :: .ref mco :: .ref mhe :: .ref mso :: .ref msi :: .ref msh :: .ref mce :: .ref mca :: .ref mwo :: .ref mnu :: .ref mte :: .int 0 :: .int 0 :: .int 0 :: .int 0 :: .int 0 :: .ref mwa :: .ref mke :: .ref mma :: .ref mth :: .ref mtr :: .int 0 :: .int 0 :: []))), (mrf, .inl (cI, 8, .inl (fun _ => 0)))] s.heap.size) s.heap s.heap [] := va_S.rf
  replace hP : va_P D vwCl _ s.heap := hP
  have hl := lv_entry ([.ref m0, .int (-4)]) (n := 2) (Nat.le_of_ble_eq_true rfl)
  rw [lg_entry_eq]
  generalize (lg_sl ([.ref m0, .int (-4)]) ++ List.replicate (2 - (lg_sl ([.ref m0, .int (-4)])).length) Slot.unset).toArray = ls at hl ⊢
  replace hl : lv_has ls 2 [(0, .ref m0), (1, .int (-4))] := hl
  refine zw_start (fun H locs hH hL => ?_)
  replace hP : va_P D vwCl [(m0, .inr (8, (.int 0 :: .int 20 :: .int 0 :: .int 0 :: .int 0 :: .int 60 :: .int 0 :: .int 3 :: .int 1 :: .int (-1) :: .ref mrf :: .ref mki :: .ref mpa :: .ref mta :: .ref mla :: .ref msl :: .ref mco :: .ref mhe :: .ref mso :: .ref msi :: .ref msh :: .ref mce :: .ref mca :: .ref mwo :: .ref mnu :: .ref mte :: .int 0 :: .int 0 :: .int 0 :: .int 0 :: .int 0 :: .ref mwa :: .ref mke :: .ref mma :: .ref mth :: .ref mtr :: .int 0 :: .int 0 :: []))), (mrf, .inl (cI, 8, .inl (fun _ => 0)))] H := by rw [hH]; exact hP
  replace hS : va_S (va_A [(m0, .inr (8, (.int 0 :: .int 20 :: .int 0 :: .int 0 :: .int 0 :: .int 60 :: .int 0 :: .int 3 :: .int 1 :: .int (-1) :: .ref mrf :: .ref mki :: .ref mpa :: .ref mta :: .ref mla :: .ref msl :: .ref mco :: .ref mhe :: .ref mso :: .ref msi :: .ref msh :: .ref mce :: .ref mca :: .ref mwo :: .ref mnu :: .ref mte :: .int 0 :: .int 0 :: .int 0 :: .int 0 :: .int 0 :: .ref mwa :: .ref mke :: .ref mma :: .ref mth :: .ref mtr :: .int 0 :: .int 0 :: []))), (mrf, .inl (cI, 8, .inl (fun _ => 0)))] s.heap.size) s.heap H locs := by rw [hH, hL]; exact hS
  clear hH hL
  refine lv_aload_n hx hb dX8_no_0 rfl (lv_at hl 0 rfl) ?_
  refine va_get (D := D) (ci := 8) (v := .ref mrf) (C := RX8) (T := TX8) (N := 38) hx hb hts hi_X8_no_8 hown hK hP 0 rfl rfl 10 (by decide) (hts (.fieldLink RX8 25 "TheLiningsInItModel" "refused" "[I") (List.mem_of_getElem? (i := 1) rfl)) (fun _ h9 => h9) rfl dX8_no_1 ?_
  refine lv_iload_n hx hb dX8_no_4 rfl (lv_at hl 1 rfl) ?_
  refine lv_ineg hx hb dX8_no_5 ?_
  refine lv_topi (fun y_1 ey_1 => ?_)
  obtain rfl : y_1 = 4 := ey_1.trans (by decide)
  refine lv_dup2_11 hx hb dX8_no_6 rfl rfl ?_
  refine va_iald hx hb hK hP 1 0 rfl rfl (zf_in (by decide) (by decide)) dX8_no_7 ?_
  refine lv_topi (fun x_2 ex_2 => ?_)
  obtain rfl : x_2 = 0 := ex_2
  refine lv_iconst (v := 1) hx hb dX8_no_8 (by decide) ?_
  refine lv_iadd hx hb dX8_no_9 ?_
  refine lv_topi (fun y_3 ey_3 => ?_)
  obtain rfl : y_3 = 1 := ey_3.trans (by decide)
  refine va_iast hx hb hK hP hD hS 1 0 rfl rfl (zf_in (by decide) (by decide)) dX8_no_10 (fun H locs hP hD hS => ?_)
  refine lv_iload_n hx hb dX8_no_11 rfl (lv_at hl 1 rfl) ?_
  exact W.iret (v := (-4)) hx hb hr (fun t ht hW => ⟨⟨(-4), (), rfl, rfl, zP_nil, zD_nil⟩, hS.F ht⟩) hS.2.2 dX8_no_12
set_option maxHeartbeats 4000000 in
set_option maxRecDepth 100000 in
theorem c_M_no_5 (l : Launch) (D : va_G) (cI cJ cZ cP cS : ClassId) (m0 mrf mki mpa mta mla msl mco mhe mso msi msh mce mca mwo mnu mte mwa mke mma mth mtr : Nat)   (sz : Nat) : Met l yX8_no wsX8_no ({ frames := 0, cells := 0, slots := 0, locals := 0 }) (va_Pc [.ref m0, .int (-5)] (zW D (zKT cI cJ cZ cP cS) [(m0, .inr (8, (.int 0 :: .int 20 :: .int 0 :: .int 0 :: .int 0 :: .int 60 :: .int 0 :: .int 3 :: .int 1 :: .int (-1) :: .ref mrf :: .ref mki :: .ref mpa :: .ref mta :: .ref mla :: .ref msl :: .ref mco :: .ref mhe :: .ref mso :: .ref msi :: .ref msh :: .ref mce :: .ref mca :: .ref mwo :: .ref mnu :: .ref mte :: .int 0 :: .int 0 :: .int 0 :: .int 0 :: .int 0 :: .ref mwa :: .ref mke :: .ref mma :: .ref mth :: .ref mtr :: .int 0 :: .int 0 :: []))), (mrf, .inl (cI, 8, .inl (fun _ => 0)))] sz)) (va_Qi (fun (r : Int32) (_ : Unit) => r = (-5)) (zB D [(m0, .inr (8, (.int 0 :: .int 20 :: .int 0 :: .int 0 :: .int 0 :: .int 60 :: .int 0 :: .int 3 :: .int 1 :: .int (-1) :: .ref mrf :: .ref mki :: .ref mpa :: .ref mta :: .ref mla :: .ref msl :: .ref mco :: .ref mhe :: .ref mso :: .ref msi :: .ref msh :: .ref mce :: .ref mca :: .ref mwo :: .ref mnu :: .ref mte :: .int 0 :: .int 0 :: .int 0 :: .int 0 :: .int 0 :: .ref mwa :: .ref mke :: .ref mma :: .ref mth :: .ref mtr :: .int 0 :: .int 0 :: []))), (mrf, .inl (cI, 8, .inl (fun _ => 0)))] sz (fun (_ : Unit) => ([] : va_W))) (va_A [(m0, .inr (8, (.int 0 :: .int 20 :: .int 0 :: .int 0 :: .int 0 :: .int 60 :: .int 0 :: .int 3 :: .int 1 :: .int (-1) :: .ref mrf :: .ref mki :: .ref mpa :: .ref mta :: .ref mla :: .ref msl :: .ref mco :: .ref mhe :: .ref mso :: .ref msi :: .ref msh :: .ref mce :: .ref mca :: .ref mwo :: .ref mnu :: .ref mte :: .int 0 :: .int 0 :: .int 0 :: .int 0 :: .int 0 :: .ref mwa :: .ref mke :: .ref mma :: .ref mth :: .ref mtr :: .int 0 :: .int 0 :: []))), (mrf, .inl (cI, 8, .inl (fun _ => 0)))] sz)) 0 0 (va_A [(m0, .inr (8, (.int 0 :: .int 20 :: .int 0 :: .int 0 :: .int 0 :: .int 60 :: .int 0 :: .int 3 :: .int 1 :: .int (-1) :: .ref mrf :: .ref mki :: .ref mpa :: .ref mta :: .ref mla :: .ref msl :: .ref mco :: .ref mhe :: .ref mso :: .ref msi :: .ref msh :: .ref mce :: .ref mca :: .ref mwo :: .ref mnu :: .ref mte :: .int 0 :: .int 0 :: .int 0 :: .int 0 :: .int 0 :: .ref mwa :: .ref mke :: .ref mma :: .ref mth :: .ref mtr :: .int 0 :: .int 0 :: []))), (mrf, .inl (cI, 8, .inl (fun _ => 0)))] sz) := by
  refine Met.ofW (cc := cX8_no) (maxL := 2) (ret := (some .int)) (by decide) rfl ?_
  intro p e s m args below meth c s₁ B hml hv
  obtain ⟨rfl, hsz, hP, hK, hD0, hN, hZ⟩ := hv
  have hx := B.exec
  have hb := B.bytes
  have hr := B.returns
  have hts := atoms_spec (ws := wsX8_no) B.pre
  have hown : s.vm.findClass RX8 = some m.cls := findClass_of_methodNamed B.named
  have hlocks := B.notSynchronized
  subst hsz
  have hD := hD0.self (sz := s.heap.size)
  have hA : ∀ q : Nat, s.heap.size ≤ q → va_A [(m0, .inr (8, (.int 0 :: .int 20 :: .int 0 :: .int 0 :: .int 0 :: .int 60 :: .int 0 :: .int 3 :: .int 1 :: .int (-1) :: .ref mrf :: .ref mki :: .ref mpa :: .ref mta :: .ref mla :: .ref msl :: .ref mco :: .ref mhe :: .ref mso :: .ref msi :: .ref msh :: .ref mce :: .ref mca :: .ref mwo :: .ref mnu :: .ref mte :: .int 0 :: .int 0 :: .int 0 :: .int 0 :: .int 0 :: .ref mwa :: .ref mke :: .ref mma :: .ref mth :: .ref mtr :: .int 0 :: .int 0 :: []))), (mrf, .inl (cI, 8, .inl (fun _ => 0)))] s.heap.size q := fun q h => Or.inr h
  have hS : va_S (va_A [(m0, .inr (8, (.int 0 :: .int 20 :: .int 0 :: .int 0 :: .int 0 :: .int 60 :: .int 0 :: .int 3 :: .int 1 :: .int (-1) :: .ref mrf :: .ref mki :: .ref mpa :: .ref mta :: .ref mla :: .ref msl :: .ref mco :: .ref mhe :: .ref mso :: .ref msi :: .ref msh :: .ref mce :: .ref mca :: .ref mwo :: .ref mnu :: .ref mte :: .int 0 :: .int 0 :: .int 0 :: .int 0 :: .int 0 :: .ref mwa :: .ref mke :: .ref mma :: .ref mth :: .ref mtr :: .int 0 :: .int 0 :: []))), (mrf, .inl (cI, 8, .inl (fun _ => 0)))] s.heap.size) s.heap s.heap [] := va_S.rf
  replace hP : va_P D vwCl _ s.heap := hP
  have hl := lv_entry ([.ref m0, .int (-5)]) (n := 2) (Nat.le_of_ble_eq_true rfl)
  rw [lg_entry_eq]
  generalize (lg_sl ([.ref m0, .int (-5)]) ++ List.replicate (2 - (lg_sl ([.ref m0, .int (-5)])).length) Slot.unset).toArray = ls at hl ⊢
  replace hl : lv_has ls 2 [(0, .ref m0), (1, .int (-5))] := hl
  refine zw_start (fun H locs hH hL => ?_)
  replace hP : va_P D vwCl [(m0, .inr (8, (.int 0 :: .int 20 :: .int 0 :: .int 0 :: .int 0 :: .int 60 :: .int 0 :: .int 3 :: .int 1 :: .int (-1) :: .ref mrf :: .ref mki :: .ref mpa :: .ref mta :: .ref mla :: .ref msl :: .ref mco :: .ref mhe :: .ref mso :: .ref msi :: .ref msh :: .ref mce :: .ref mca :: .ref mwo :: .ref mnu :: .ref mte :: .int 0 :: .int 0 :: .int 0 :: .int 0 :: .int 0 :: .ref mwa :: .ref mke :: .ref mma :: .ref mth :: .ref mtr :: .int 0 :: .int 0 :: []))), (mrf, .inl (cI, 8, .inl (fun _ => 0)))] H := by rw [hH]; exact hP
  replace hS : va_S (va_A [(m0, .inr (8, (.int 0 :: .int 20 :: .int 0 :: .int 0 :: .int 0 :: .int 60 :: .int 0 :: .int 3 :: .int 1 :: .int (-1) :: .ref mrf :: .ref mki :: .ref mpa :: .ref mta :: .ref mla :: .ref msl :: .ref mco :: .ref mhe :: .ref mso :: .ref msi :: .ref msh :: .ref mce :: .ref mca :: .ref mwo :: .ref mnu :: .ref mte :: .int 0 :: .int 0 :: .int 0 :: .int 0 :: .int 0 :: .ref mwa :: .ref mke :: .ref mma :: .ref mth :: .ref mtr :: .int 0 :: .int 0 :: []))), (mrf, .inl (cI, 8, .inl (fun _ => 0)))] s.heap.size) s.heap H locs := by rw [hH, hL]; exact hS
  clear hH hL
  refine lv_aload_n hx hb dX8_no_0 rfl (lv_at hl 0 rfl) ?_
  refine va_get (D := D) (ci := 8) (v := .ref mrf) (C := RX8) (T := TX8) (N := 38) hx hb hts hi_X8_no_8 hown hK hP 0 rfl rfl 10 (by decide) (hts (.fieldLink RX8 25 "TheLiningsInItModel" "refused" "[I") (List.mem_of_getElem? (i := 1) rfl)) (fun _ h9 => h9) rfl dX8_no_1 ?_
  refine lv_iload_n hx hb dX8_no_4 rfl (lv_at hl 1 rfl) ?_
  refine lv_ineg hx hb dX8_no_5 ?_
  refine lv_topi (fun y_1 ey_1 => ?_)
  obtain rfl : y_1 = 5 := ey_1.trans (by decide)
  refine lv_dup2_11 hx hb dX8_no_6 rfl rfl ?_
  refine va_iald hx hb hK hP 1 0 rfl rfl (zf_in (by decide) (by decide)) dX8_no_7 ?_
  refine lv_topi (fun x_2 ex_2 => ?_)
  obtain rfl : x_2 = 0 := ex_2
  refine lv_iconst (v := 1) hx hb dX8_no_8 (by decide) ?_
  refine lv_iadd hx hb dX8_no_9 ?_
  refine lv_topi (fun y_3 ey_3 => ?_)
  obtain rfl : y_3 = 1 := ey_3.trans (by decide)
  refine va_iast hx hb hK hP hD hS 1 0 rfl rfl (zf_in (by decide) (by decide)) dX8_no_10 (fun H locs hP hD hS => ?_)
  refine lv_iload_n hx hb dX8_no_11 rfl (lv_at hl 1 rfl) ?_
  exact W.iret (v := (-5)) hx hb hr (fun t ht hW => ⟨⟨(-5), (), rfl, rfl, zP_nil, zD_nil⟩, hS.F ht⟩) hS.2.2 dX8_no_12
set_option maxHeartbeats 4000000 in
set_option maxRecDepth 100000 in
theorem c_M_no_6 (l : Launch) (D : va_G) (cI cJ cZ cP cS : ClassId) (m0 mrf mki mpa mta mla msl mco mhe mso msi msh mce mca mwo mnu mte mwa mke mma mth mtr : Nat)   (sz : Nat) : Met l yX8_no wsX8_no ({ frames := 0, cells := 0, slots := 0, locals := 0 }) (va_Pc [.ref m0, .int (-6)] (zW D (zKT cI cJ cZ cP cS) [(m0, .inr (8, (.int 0 :: .int 20 :: .int 0 :: .int 0 :: .int 0 :: .int 60 :: .int 0 :: .int 3 :: .int 1 :: .int (-1) :: .ref mrf :: .ref mki :: .ref mpa :: .ref mta :: .ref mla :: .ref msl :: .ref mco :: .ref mhe :: .ref mso :: .ref msi :: .ref msh :: .ref mce :: .ref mca :: .ref mwo :: .ref mnu :: .ref mte :: .int 0 :: .int 0 :: .int 0 :: .int 0 :: .int 0 :: .ref mwa :: .ref mke :: .ref mma :: .ref mth :: .ref mtr :: .int 0 :: .int 0 :: []))), (mrf, .inl (cI, 8, .inl (fun _ => 0)))] sz)) (va_Qi (fun (r : Int32) (_ : Unit) => r = (-6)) (zB D [(m0, .inr (8, (.int 0 :: .int 20 :: .int 0 :: .int 0 :: .int 0 :: .int 60 :: .int 0 :: .int 3 :: .int 1 :: .int (-1) :: .ref mrf :: .ref mki :: .ref mpa :: .ref mta :: .ref mla :: .ref msl :: .ref mco :: .ref mhe :: .ref mso :: .ref msi :: .ref msh :: .ref mce :: .ref mca :: .ref mwo :: .ref mnu :: .ref mte :: .int 0 :: .int 0 :: .int 0 :: .int 0 :: .int 0 :: .ref mwa :: .ref mke :: .ref mma :: .ref mth :: .ref mtr :: .int 0 :: .int 0 :: []))), (mrf, .inl (cI, 8, .inl (fun _ => 0)))] sz (fun (_ : Unit) => ([] : va_W))) (va_A [(m0, .inr (8, (.int 0 :: .int 20 :: .int 0 :: .int 0 :: .int 0 :: .int 60 :: .int 0 :: .int 3 :: .int 1 :: .int (-1) :: .ref mrf :: .ref mki :: .ref mpa :: .ref mta :: .ref mla :: .ref msl :: .ref mco :: .ref mhe :: .ref mso :: .ref msi :: .ref msh :: .ref mce :: .ref mca :: .ref mwo :: .ref mnu :: .ref mte :: .int 0 :: .int 0 :: .int 0 :: .int 0 :: .int 0 :: .ref mwa :: .ref mke :: .ref mma :: .ref mth :: .ref mtr :: .int 0 :: .int 0 :: []))), (mrf, .inl (cI, 8, .inl (fun _ => 0)))] sz)) 0 0 (va_A [(m0, .inr (8, (.int 0 :: .int 20 :: .int 0 :: .int 0 :: .int 0 :: .int 60 :: .int 0 :: .int 3 :: .int 1 :: .int (-1) :: .ref mrf :: .ref mki :: .ref mpa :: .ref mta :: .ref mla :: .ref msl :: .ref mco :: .ref mhe :: .ref mso :: .ref msi :: .ref msh :: .ref mce :: .ref mca :: .ref mwo :: .ref mnu :: .ref mte :: .int 0 :: .int 0 :: .int 0 :: .int 0 :: .int 0 :: .ref mwa :: .ref mke :: .ref mma :: .ref mth :: .ref mtr :: .int 0 :: .int 0 :: []))), (mrf, .inl (cI, 8, .inl (fun _ => 0)))] sz) := by
  refine Met.ofW (cc := cX8_no) (maxL := 2) (ret := (some .int)) (by decide) rfl ?_
  intro p e s m args below meth c s₁ B hml hv
  obtain ⟨rfl, hsz, hP, hK, hD0, hN, hZ⟩ := hv
  have hx := B.exec
  have hb := B.bytes
  have hr := B.returns
  have hts := atoms_spec (ws := wsX8_no) B.pre
  have hown : s.vm.findClass RX8 = some m.cls := findClass_of_methodNamed B.named
  have hlocks := B.notSynchronized
  subst hsz
  have hD := hD0.self (sz := s.heap.size)
  have hA : ∀ q : Nat, s.heap.size ≤ q → va_A [(m0, .inr (8, (.int 0 :: .int 20 :: .int 0 :: .int 0 :: .int 0 :: .int 60 :: .int 0 :: .int 3 :: .int 1 :: .int (-1) :: .ref mrf :: .ref mki :: .ref mpa :: .ref mta :: .ref mla :: .ref msl :: .ref mco :: .ref mhe :: .ref mso :: .ref msi :: .ref msh :: .ref mce :: .ref mca :: .ref mwo :: .ref mnu :: .ref mte :: .int 0 :: .int 0 :: .int 0 :: .int 0 :: .int 0 :: .ref mwa :: .ref mke :: .ref mma :: .ref mth :: .ref mtr :: .int 0 :: .int 0 :: []))), (mrf, .inl (cI, 8, .inl (fun _ => 0)))] s.heap.size q := fun q h => Or.inr h
  have hS : va_S (va_A [(m0, .inr (8, (.int 0 :: .int 20 :: .int 0 :: .int 0 :: .int 0 :: .int 60 :: .int 0 :: .int 3 :: .int 1 :: .int (-1) :: .ref mrf :: .ref mki :: .ref mpa :: .ref mta :: .ref mla :: .ref msl :: .ref mco :: .ref mhe :: .ref mso :: .ref msi :: .ref msh :: .ref mce :: .ref mca :: .ref mwo :: .ref mnu :: .ref mte :: .int 0 :: .int 0 :: .int 0 :: .int 0 :: .int 0 :: .ref mwa :: .ref mke :: .ref mma :: .ref mth :: .ref mtr :: .int 0 :: .int 0 :: []))), (mrf, .inl (cI, 8, .inl (fun _ => 0)))] s.heap.size) s.heap s.heap [] := va_S.rf
  replace hP : va_P D vwCl _ s.heap := hP
  have hl := lv_entry ([.ref m0, .int (-6)]) (n := 2) (Nat.le_of_ble_eq_true rfl)
  rw [lg_entry_eq]
  generalize (lg_sl ([.ref m0, .int (-6)]) ++ List.replicate (2 - (lg_sl ([.ref m0, .int (-6)])).length) Slot.unset).toArray = ls at hl ⊢
  replace hl : lv_has ls 2 [(0, .ref m0), (1, .int (-6))] := hl
  refine zw_start (fun H locs hH hL => ?_)
  replace hP : va_P D vwCl [(m0, .inr (8, (.int 0 :: .int 20 :: .int 0 :: .int 0 :: .int 0 :: .int 60 :: .int 0 :: .int 3 :: .int 1 :: .int (-1) :: .ref mrf :: .ref mki :: .ref mpa :: .ref mta :: .ref mla :: .ref msl :: .ref mco :: .ref mhe :: .ref mso :: .ref msi :: .ref msh :: .ref mce :: .ref mca :: .ref mwo :: .ref mnu :: .ref mte :: .int 0 :: .int 0 :: .int 0 :: .int 0 :: .int 0 :: .ref mwa :: .ref mke :: .ref mma :: .ref mth :: .ref mtr :: .int 0 :: .int 0 :: []))), (mrf, .inl (cI, 8, .inl (fun _ => 0)))] H := by rw [hH]; exact hP
  replace hS : va_S (va_A [(m0, .inr (8, (.int 0 :: .int 20 :: .int 0 :: .int 0 :: .int 0 :: .int 60 :: .int 0 :: .int 3 :: .int 1 :: .int (-1) :: .ref mrf :: .ref mki :: .ref mpa :: .ref mta :: .ref mla :: .ref msl :: .ref mco :: .ref mhe :: .ref mso :: .ref msi :: .ref msh :: .ref mce :: .ref mca :: .ref mwo :: .ref mnu :: .ref mte :: .int 0 :: .int 0 :: .int 0 :: .int 0 :: .int 0 :: .ref mwa :: .ref mke :: .ref mma :: .ref mth :: .ref mtr :: .int 0 :: .int 0 :: []))), (mrf, .inl (cI, 8, .inl (fun _ => 0)))] s.heap.size) s.heap H locs := by rw [hH, hL]; exact hS
  clear hH hL
  refine lv_aload_n hx hb dX8_no_0 rfl (lv_at hl 0 rfl) ?_
  refine va_get (D := D) (ci := 8) (v := .ref mrf) (C := RX8) (T := TX8) (N := 38) hx hb hts hi_X8_no_8 hown hK hP 0 rfl rfl 10 (by decide) (hts (.fieldLink RX8 25 "TheLiningsInItModel" "refused" "[I") (List.mem_of_getElem? (i := 1) rfl)) (fun _ h9 => h9) rfl dX8_no_1 ?_
  refine lv_iload_n hx hb dX8_no_4 rfl (lv_at hl 1 rfl) ?_
  refine lv_ineg hx hb dX8_no_5 ?_
  refine lv_topi (fun y_1 ey_1 => ?_)
  obtain rfl : y_1 = 6 := ey_1.trans (by decide)
  refine lv_dup2_11 hx hb dX8_no_6 rfl rfl ?_
  refine va_iald hx hb hK hP 1 0 rfl rfl (zf_in (by decide) (by decide)) dX8_no_7 ?_
  refine lv_topi (fun x_2 ex_2 => ?_)
  obtain rfl : x_2 = 0 := ex_2
  refine lv_iconst (v := 1) hx hb dX8_no_8 (by decide) ?_
  refine lv_iadd hx hb dX8_no_9 ?_
  refine lv_topi (fun y_3 ey_3 => ?_)
  obtain rfl : y_3 = 1 := ey_3.trans (by decide)
  refine va_iast hx hb hK hP hD hS 1 0 rfl rfl (zf_in (by decide) (by decide)) dX8_no_10 (fun H locs hP hD hS => ?_)
  refine lv_iload_n hx hb dX8_no_11 rfl (lv_at hl 1 rfl) ?_
  exact W.iret (v := (-6)) hx hb hr (fun t ht hW => ⟨⟨(-6), (), rfl, rfl, zP_nil, zD_nil⟩, hS.F ht⟩) hS.2.2 dX8_no_12
set_option maxHeartbeats 4000000 in
set_option maxRecDepth 100000 in
theorem c_M_no_7 (l : Launch) (D : va_G) (cI cJ cZ cP cS : ClassId) (m0 mrf mki mpa mta mla msl mco mhe mso msi msh mce mca mwo mnu mte mwa mke mma mth mtr : Nat)   (sz : Nat) : Met l yX8_no wsX8_no ({ frames := 0, cells := 0, slots := 0, locals := 0 }) (va_Pc [.ref m0, .int (-7)] (zW D (zKT cI cJ cZ cP cS) [(m0, .inr (8, (.int 0 :: .int 20 :: .int 0 :: .int 0 :: .int 0 :: .int 60 :: .int 0 :: .int 3 :: .int 1 :: .int (-1) :: .ref mrf :: .ref mki :: .ref mpa :: .ref mta :: .ref mla :: .ref msl :: .ref mco :: .ref mhe :: .ref mso :: .ref msi :: .ref msh :: .ref mce :: .ref mca :: .ref mwo :: .ref mnu :: .ref mte :: .int 0 :: .int 0 :: .int 0 :: .int 0 :: .int 0 :: .ref mwa :: .ref mke :: .ref mma :: .ref mth :: .ref mtr :: .int 0 :: .int 0 :: []))), (mrf, .inl (cI, 8, .inl (fun _ => 0)))] sz)) (va_Qi (fun (r : Int32) (_ : Unit) => r = (-7)) (zB D [(m0, .inr (8, (.int 0 :: .int 20 :: .int 0 :: .int 0 :: .int 0 :: .int 60 :: .int 0 :: .int 3 :: .int 1 :: .int (-1) :: .ref mrf :: .ref mki :: .ref mpa :: .ref mta :: .ref mla :: .ref msl :: .ref mco :: .ref mhe :: .ref mso :: .ref msi :: .ref msh :: .ref mce :: .ref mca :: .ref mwo :: .ref mnu :: .ref mte :: .int 0 :: .int 0 :: .int 0 :: .int 0 :: .int 0 :: .ref mwa :: .ref mke :: .ref mma :: .ref mth :: .ref mtr :: .int 0 :: .int 0 :: []))), (mrf, .inl (cI, 8, .inl (fun _ => 0)))] sz (fun (_ : Unit) => ([] : va_W))) (va_A [(m0, .inr (8, (.int 0 :: .int 20 :: .int 0 :: .int 0 :: .int 0 :: .int 60 :: .int 0 :: .int 3 :: .int 1 :: .int (-1) :: .ref mrf :: .ref mki :: .ref mpa :: .ref mta :: .ref mla :: .ref msl :: .ref mco :: .ref mhe :: .ref mso :: .ref msi :: .ref msh :: .ref mce :: .ref mca :: .ref mwo :: .ref mnu :: .ref mte :: .int 0 :: .int 0 :: .int 0 :: .int 0 :: .int 0 :: .ref mwa :: .ref mke :: .ref mma :: .ref mth :: .ref mtr :: .int 0 :: .int 0 :: []))), (mrf, .inl (cI, 8, .inl (fun _ => 0)))] sz)) 0 0 (va_A [(m0, .inr (8, (.int 0 :: .int 20 :: .int 0 :: .int 0 :: .int 0 :: .int 60 :: .int 0 :: .int 3 :: .int 1 :: .int (-1) :: .ref mrf :: .ref mki :: .ref mpa :: .ref mta :: .ref mla :: .ref msl :: .ref mco :: .ref mhe :: .ref mso :: .ref msi :: .ref msh :: .ref mce :: .ref mca :: .ref mwo :: .ref mnu :: .ref mte :: .int 0 :: .int 0 :: .int 0 :: .int 0 :: .int 0 :: .ref mwa :: .ref mke :: .ref mma :: .ref mth :: .ref mtr :: .int 0 :: .int 0 :: []))), (mrf, .inl (cI, 8, .inl (fun _ => 0)))] sz) := by
  refine Met.ofW (cc := cX8_no) (maxL := 2) (ret := (some .int)) (by decide) rfl ?_
  intro p e s m args below meth c s₁ B hml hv
  obtain ⟨rfl, hsz, hP, hK, hD0, hN, hZ⟩ := hv
  have hx := B.exec
  have hb := B.bytes
  have hr := B.returns
  have hts := atoms_spec (ws := wsX8_no) B.pre
  have hown : s.vm.findClass RX8 = some m.cls := findClass_of_methodNamed B.named
  have hlocks := B.notSynchronized
  subst hsz
  have hD := hD0.self (sz := s.heap.size)
  have hA : ∀ q : Nat, s.heap.size ≤ q → va_A [(m0, .inr (8, (.int 0 :: .int 20 :: .int 0 :: .int 0 :: .int 0 :: .int 60 :: .int 0 :: .int 3 :: .int 1 :: .int (-1) :: .ref mrf :: .ref mki :: .ref mpa :: .ref mta :: .ref mla :: .ref msl :: .ref mco :: .ref mhe :: .ref mso :: .ref msi :: .ref msh :: .ref mce :: .ref mca :: .ref mwo :: .ref mnu :: .ref mte :: .int 0 :: .int 0 :: .int 0 :: .int 0 :: .int 0 :: .ref mwa :: .ref mke :: .ref mma :: .ref mth :: .ref mtr :: .int 0 :: .int 0 :: []))), (mrf, .inl (cI, 8, .inl (fun _ => 0)))] s.heap.size q := fun q h => Or.inr h
  have hS : va_S (va_A [(m0, .inr (8, (.int 0 :: .int 20 :: .int 0 :: .int 0 :: .int 0 :: .int 60 :: .int 0 :: .int 3 :: .int 1 :: .int (-1) :: .ref mrf :: .ref mki :: .ref mpa :: .ref mta :: .ref mla :: .ref msl :: .ref mco :: .ref mhe :: .ref mso :: .ref msi :: .ref msh :: .ref mce :: .ref mca :: .ref mwo :: .ref mnu :: .ref mte :: .int 0 :: .int 0 :: .int 0 :: .int 0 :: .int 0 :: .ref mwa :: .ref mke :: .ref mma :: .ref mth :: .ref mtr :: .int 0 :: .int 0 :: []))), (mrf, .inl (cI, 8, .inl (fun _ => 0)))] s.heap.size) s.heap s.heap [] := va_S.rf
  replace hP : va_P D vwCl _ s.heap := hP
  have hl := lv_entry ([.ref m0, .int (-7)]) (n := 2) (Nat.le_of_ble_eq_true rfl)
  rw [lg_entry_eq]
  generalize (lg_sl ([.ref m0, .int (-7)]) ++ List.replicate (2 - (lg_sl ([.ref m0, .int (-7)])).length) Slot.unset).toArray = ls at hl ⊢
  replace hl : lv_has ls 2 [(0, .ref m0), (1, .int (-7))] := hl
  refine zw_start (fun H locs hH hL => ?_)
  replace hP : va_P D vwCl [(m0, .inr (8, (.int 0 :: .int 20 :: .int 0 :: .int 0 :: .int 0 :: .int 60 :: .int 0 :: .int 3 :: .int 1 :: .int (-1) :: .ref mrf :: .ref mki :: .ref mpa :: .ref mta :: .ref mla :: .ref msl :: .ref mco :: .ref mhe :: .ref mso :: .ref msi :: .ref msh :: .ref mce :: .ref mca :: .ref mwo :: .ref mnu :: .ref mte :: .int 0 :: .int 0 :: .int 0 :: .int 0 :: .int 0 :: .ref mwa :: .ref mke :: .ref mma :: .ref mth :: .ref mtr :: .int 0 :: .int 0 :: []))), (mrf, .inl (cI, 8, .inl (fun _ => 0)))] H := by rw [hH]; exact hP
  replace hS : va_S (va_A [(m0, .inr (8, (.int 0 :: .int 20 :: .int 0 :: .int 0 :: .int 0 :: .int 60 :: .int 0 :: .int 3 :: .int 1 :: .int (-1) :: .ref mrf :: .ref mki :: .ref mpa :: .ref mta :: .ref mla :: .ref msl :: .ref mco :: .ref mhe :: .ref mso :: .ref msi :: .ref msh :: .ref mce :: .ref mca :: .ref mwo :: .ref mnu :: .ref mte :: .int 0 :: .int 0 :: .int 0 :: .int 0 :: .int 0 :: .ref mwa :: .ref mke :: .ref mma :: .ref mth :: .ref mtr :: .int 0 :: .int 0 :: []))), (mrf, .inl (cI, 8, .inl (fun _ => 0)))] s.heap.size) s.heap H locs := by rw [hH, hL]; exact hS
  clear hH hL
  refine lv_aload_n hx hb dX8_no_0 rfl (lv_at hl 0 rfl) ?_
  refine va_get (D := D) (ci := 8) (v := .ref mrf) (C := RX8) (T := TX8) (N := 38) hx hb hts hi_X8_no_8 hown hK hP 0 rfl rfl 10 (by decide) (hts (.fieldLink RX8 25 "TheLiningsInItModel" "refused" "[I") (List.mem_of_getElem? (i := 1) rfl)) (fun _ h9 => h9) rfl dX8_no_1 ?_
  refine lv_iload_n hx hb dX8_no_4 rfl (lv_at hl 1 rfl) ?_
  refine lv_ineg hx hb dX8_no_5 ?_
  refine lv_topi (fun y_1 ey_1 => ?_)
  obtain rfl : y_1 = 7 := ey_1.trans (by decide)
  refine lv_dup2_11 hx hb dX8_no_6 rfl rfl ?_
  refine va_iald hx hb hK hP 1 0 rfl rfl (zf_in (by decide) (by decide)) dX8_no_7 ?_
  refine lv_topi (fun x_2 ex_2 => ?_)
  obtain rfl : x_2 = 0 := ex_2
  refine lv_iconst (v := 1) hx hb dX8_no_8 (by decide) ?_
  refine lv_iadd hx hb dX8_no_9 ?_
  refine lv_topi (fun y_3 ey_3 => ?_)
  obtain rfl : y_3 = 1 := ey_3.trans (by decide)
  refine va_iast hx hb hK hP hD hS 1 0 rfl rfl (zf_in (by decide) (by decide)) dX8_no_10 (fun H locs hP hD hS => ?_)
  refine lv_iload_n hx hb dX8_no_11 rfl (lv_at hl 1 rfl) ?_
  exact W.iret (v := (-7)) hx hb hr (fun t ht hW => ⟨⟨(-7), (), rfl, rfl, zP_nil, zD_nil⟩, hS.F ht⟩) hS.2.2 dX8_no_12
theorem hi_X8_noTen_8 : ∀ w ∈ u_ws RX8 TX8 38, w ∈ wsX8_noTen := by decide +kernel
set_option maxHeartbeats 4000000 in
set_option maxRecDepth 100000 in
theorem c_M_noTen_1 (l : Launch) (D : va_G) (cI cJ cZ cP cS : ClassId) (m0 mrf mki mpa mta mla msl mco mhe mso msi msh mce mca mwo mnu mte mwa mke mma mth mtr : Nat)   (sz : Nat) : Met l yX8_noTen wsX8_noTen ({ frames := 0, cells := 0, slots := 0, locals := 0 }) (va_Pc [.ref m0, .int (-1)] (zW D (zKT cI cJ cZ cP cS) [(m0, .inr (8, (.int 0 :: .int 20 :: .int 0 :: .int 0 :: .int 0 :: .int 60 :: .int 0 :: .int 3 :: .int 1 :: .int (-1) :: .ref mrf :: .ref mki :: .ref mpa :: .ref mta :: .ref mla :: .ref msl :: .ref mco :: .ref mhe :: .ref mso :: .ref msi :: .ref msh :: .ref mce :: .ref mca :: .ref mwo :: .ref mnu :: .ref mte :: .int 0 :: .int 0 :: .int 0 :: .int 0 :: .int 0 :: .ref mwa :: .ref mke :: .ref mma :: .ref mth :: .ref mtr :: .int 0 :: .int 0 :: []))), (mrf, .inl (cI, 8, .inl (fun _ => 0)))] sz)) (va_Qi (fun (r : Int32) (_ : Unit) => r = (-11)) (zB D [(m0, .inr (8, (.int 0 :: .int 20 :: .int 0 :: .int 0 :: .int 0 :: .int 60 :: .int 0 :: .int 3 :: .int 1 :: .int (-1) :: .ref mrf :: .ref mki :: .ref mpa :: .ref mta :: .ref mla :: .ref msl :: .ref mco :: .ref mhe :: .ref mso :: .ref msi :: .ref msh :: .ref mce :: .ref mca :: .ref mwo :: .ref mnu :: .ref mte :: .int 0 :: .int 0 :: .int 0 :: .int 0 :: .int 0 :: .ref mwa :: .ref mke :: .ref mma :: .ref mth :: .ref mtr :: .int 0 :: .int 0 :: []))), (mrf, .inl (cI, 8, .inl (fun _ => 0)))] sz (fun (_ : Unit) => ([] : va_W))) (va_A [(m0, .inr (8, (.int 0 :: .int 20 :: .int 0 :: .int 0 :: .int 0 :: .int 60 :: .int 0 :: .int 3 :: .int 1 :: .int (-1) :: .ref mrf :: .ref mki :: .ref mpa :: .ref mta :: .ref mla :: .ref msl :: .ref mco :: .ref mhe :: .ref mso :: .ref msi :: .ref msh :: .ref mce :: .ref mca :: .ref mwo :: .ref mnu :: .ref mte :: .int 0 :: .int 0 :: .int 0 :: .int 0 :: .int 0 :: .ref mwa :: .ref mke :: .ref mma :: .ref mth :: .ref mtr :: .int 0 :: .int 0 :: []))), (mrf, .inl (cI, 8, .inl (fun _ => 0)))] sz)) 0 0 (va_A [(m0, .inr (8, (.int 0 :: .int 20 :: .int 0 :: .int 0 :: .int 0 :: .int 60 :: .int 0 :: .int 3 :: .int 1 :: .int (-1) :: .ref mrf :: .ref mki :: .ref mpa :: .ref mta :: .ref mla :: .ref msl :: .ref mco :: .ref mhe :: .ref mso :: .ref msi :: .ref msh :: .ref mce :: .ref mca :: .ref mwo :: .ref mnu :: .ref mte :: .int 0 :: .int 0 :: .int 0 :: .int 0 :: .int 0 :: .ref mwa :: .ref mke :: .ref mma :: .ref mth :: .ref mtr :: .int 0 :: .int 0 :: []))), (mrf, .inl (cI, 8, .inl (fun _ => 0)))] sz) := by
  refine Met.ofW (cc := cX8_noTen) (maxL := 2) (ret := (some .int)) (by decide) rfl ?_
  intro p e s m args below meth c s₁ B hml hv
  obtain ⟨rfl, hsz, hP, hK, hD0, hN, hZ⟩ := hv
  have hx := B.exec
  have hb := B.bytes
  have hr := B.returns
  have hts := atoms_spec (ws := wsX8_noTen) B.pre
  have hown : s.vm.findClass RX8 = some m.cls := findClass_of_methodNamed B.named
  have hlocks := B.notSynchronized
  subst hsz
  have hD := hD0.self (sz := s.heap.size)
  have hA : ∀ q : Nat, s.heap.size ≤ q → va_A [(m0, .inr (8, (.int 0 :: .int 20 :: .int 0 :: .int 0 :: .int 0 :: .int 60 :: .int 0 :: .int 3 :: .int 1 :: .int (-1) :: .ref mrf :: .ref mki :: .ref mpa :: .ref mta :: .ref mla :: .ref msl :: .ref mco :: .ref mhe :: .ref mso :: .ref msi :: .ref msh :: .ref mce :: .ref mca :: .ref mwo :: .ref mnu :: .ref mte :: .int 0 :: .int 0 :: .int 0 :: .int 0 :: .int 0 :: .ref mwa :: .ref mke :: .ref mma :: .ref mth :: .ref mtr :: .int 0 :: .int 0 :: []))), (mrf, .inl (cI, 8, .inl (fun _ => 0)))] s.heap.size q := fun q h => Or.inr h
  have hS : va_S (va_A [(m0, .inr (8, (.int 0 :: .int 20 :: .int 0 :: .int 0 :: .int 0 :: .int 60 :: .int 0 :: .int 3 :: .int 1 :: .int (-1) :: .ref mrf :: .ref mki :: .ref mpa :: .ref mta :: .ref mla :: .ref msl :: .ref mco :: .ref mhe :: .ref mso :: .ref msi :: .ref msh :: .ref mce :: .ref mca :: .ref mwo :: .ref mnu :: .ref mte :: .int 0 :: .int 0 :: .int 0 :: .int 0 :: .int 0 :: .ref mwa :: .ref mke :: .ref mma :: .ref mth :: .ref mtr :: .int 0 :: .int 0 :: []))), (mrf, .inl (cI, 8, .inl (fun _ => 0)))] s.heap.size) s.heap s.heap [] := va_S.rf
  replace hP : va_P D vwCl _ s.heap := hP
  have hl := lv_entry ([.ref m0, .int (-1)]) (n := 2) (Nat.le_of_ble_eq_true rfl)
  rw [lg_entry_eq]
  generalize (lg_sl ([.ref m0, .int (-1)]) ++ List.replicate (2 - (lg_sl ([.ref m0, .int (-1)])).length) Slot.unset).toArray = ls at hl ⊢
  replace hl : lv_has ls 2 [(0, .ref m0), (1, .int (-1))] := hl
  refine zw_start (fun H locs hH hL => ?_)
  replace hP : va_P D vwCl [(m0, .inr (8, (.int 0 :: .int 20 :: .int 0 :: .int 0 :: .int 0 :: .int 60 :: .int 0 :: .int 3 :: .int 1 :: .int (-1) :: .ref mrf :: .ref mki :: .ref mpa :: .ref mta :: .ref mla :: .ref msl :: .ref mco :: .ref mhe :: .ref mso :: .ref msi :: .ref msh :: .ref mce :: .ref mca :: .ref mwo :: .ref mnu :: .ref mte :: .int 0 :: .int 0 :: .int 0 :: .int 0 :: .int 0 :: .ref mwa :: .ref mke :: .ref mma :: .ref mth :: .ref mtr :: .int 0 :: .int 0 :: []))), (mrf, .inl (cI, 8, .inl (fun _ => 0)))] H := by rw [hH]; exact hP
  replace hS : va_S (va_A [(m0, .inr (8, (.int 0 :: .int 20 :: .int 0 :: .int 0 :: .int 0 :: .int 60 :: .int 0 :: .int 3 :: .int 1 :: .int (-1) :: .ref mrf :: .ref mki :: .ref mpa :: .ref mta :: .ref mla :: .ref msl :: .ref mco :: .ref mhe :: .ref mso :: .ref msi :: .ref msh :: .ref mce :: .ref mca :: .ref mwo :: .ref mnu :: .ref mte :: .int 0 :: .int 0 :: .int 0 :: .int 0 :: .int 0 :: .ref mwa :: .ref mke :: .ref mma :: .ref mth :: .ref mtr :: .int 0 :: .int 0 :: []))), (mrf, .inl (cI, 8, .inl (fun _ => 0)))] s.heap.size) s.heap H locs := by rw [hH, hL]; exact hS
  clear hH hL
  refine lv_aload_n hx hb dX8_noTen_0 rfl (lv_at hl 0 rfl) ?_
  refine va_get (D := D) (ci := 8) (v := .ref mrf) (C := RX8) (T := TX8) (N := 38) hx hb hts hi_X8_noTen_8 hown hK hP 0 rfl rfl 10 (by decide) (hts (.fieldLink RX8 25 "TheLiningsInItModel" "refused" "[I") (List.mem_of_getElem? (i := 1) rfl)) (fun _ h9 => h9) rfl dX8_noTen_1 ?_
  refine lv_iload_n hx hb dX8_noTen_4 rfl (lv_at hl 1 rfl) ?_
  refine lv_ineg hx hb dX8_noTen_5 ?_
  refine lv_topi (fun y_1 ey_1 => ?_)
  obtain rfl : y_1 = 1 := ey_1.trans (by decide)
  refine lv_dup2_11 hx hb dX8_noTen_6 rfl rfl ?_
  refine va_iald hx hb hK hP 1 0 rfl rfl (zf_in (by decide) (by decide)) dX8_noTen_7 ?_
  refine lv_topi (fun x_2 ex_2 => ?_)
  obtain rfl : x_2 = 0 := ex_2
  refine lv_iconst (v := 1) hx hb dX8_noTen_8 (by decide) ?_
  refine lv_iadd hx hb dX8_noTen_9 ?_
  refine lv_topi (fun y_3 ey_3 => ?_)
  obtain rfl : y_3 = 1 := ey_3.trans (by decide)
  refine va_iast hx hb hK hP hD hS 1 0 rfl rfl (zf_in (by decide) (by decide)) dX8_noTen_10 (fun H locs hP hD hS => ?_)
  refine lv_iload_n hx hb dX8_noTen_11 rfl (lv_at hl 1 rfl) ?_
  refine lv_bipush (v := 10) hx hb dX8_noTen_12 (by decide) ?_
  refine lv_isub hx hb dX8_noTen_14 ?_
  refine lv_topi (fun y_4 ey_4 => ?_)
  obtain rfl : y_4 = (-11) := ey_4.trans (by decide)
  exact W.iret (v := (-11)) hx hb hr (fun t ht hW => ⟨⟨(-11), (), rfl, rfl, zP_nil, zD_nil⟩, hS.F ht⟩) hS.2.2 dX8_noTen_15
set_option maxHeartbeats 4000000 in
set_option maxRecDepth 100000 in
theorem c_M_noTen_3 (l : Launch) (D : va_G) (cI cJ cZ cP cS : ClassId) (m0 mrf mki mpa mta mla msl mco mhe mso msi msh mce mca mwo mnu mte mwa mke mma mth mtr : Nat)   (sz : Nat) : Met l yX8_noTen wsX8_noTen ({ frames := 0, cells := 0, slots := 0, locals := 0 }) (va_Pc [.ref m0, .int (-3)] (zW D (zKT cI cJ cZ cP cS) [(m0, .inr (8, (.int 0 :: .int 20 :: .int 0 :: .int 0 :: .int 0 :: .int 60 :: .int 0 :: .int 3 :: .int 1 :: .int (-1) :: .ref mrf :: .ref mki :: .ref mpa :: .ref mta :: .ref mla :: .ref msl :: .ref mco :: .ref mhe :: .ref mso :: .ref msi :: .ref msh :: .ref mce :: .ref mca :: .ref mwo :: .ref mnu :: .ref mte :: .int 0 :: .int 0 :: .int 0 :: .int 0 :: .int 0 :: .ref mwa :: .ref mke :: .ref mma :: .ref mth :: .ref mtr :: .int 0 :: .int 0 :: []))), (mrf, .inl (cI, 8, .inl (fun _ => 0)))] sz)) (va_Qi (fun (r : Int32) (_ : Unit) => r = (-13)) (zB D [(m0, .inr (8, (.int 0 :: .int 20 :: .int 0 :: .int 0 :: .int 0 :: .int 60 :: .int 0 :: .int 3 :: .int 1 :: .int (-1) :: .ref mrf :: .ref mki :: .ref mpa :: .ref mta :: .ref mla :: .ref msl :: .ref mco :: .ref mhe :: .ref mso :: .ref msi :: .ref msh :: .ref mce :: .ref mca :: .ref mwo :: .ref mnu :: .ref mte :: .int 0 :: .int 0 :: .int 0 :: .int 0 :: .int 0 :: .ref mwa :: .ref mke :: .ref mma :: .ref mth :: .ref mtr :: .int 0 :: .int 0 :: []))), (mrf, .inl (cI, 8, .inl (fun _ => 0)))] sz (fun (_ : Unit) => ([] : va_W))) (va_A [(m0, .inr (8, (.int 0 :: .int 20 :: .int 0 :: .int 0 :: .int 0 :: .int 60 :: .int 0 :: .int 3 :: .int 1 :: .int (-1) :: .ref mrf :: .ref mki :: .ref mpa :: .ref mta :: .ref mla :: .ref msl :: .ref mco :: .ref mhe :: .ref mso :: .ref msi :: .ref msh :: .ref mce :: .ref mca :: .ref mwo :: .ref mnu :: .ref mte :: .int 0 :: .int 0 :: .int 0 :: .int 0 :: .int 0 :: .ref mwa :: .ref mke :: .ref mma :: .ref mth :: .ref mtr :: .int 0 :: .int 0 :: []))), (mrf, .inl (cI, 8, .inl (fun _ => 0)))] sz)) 0 0 (va_A [(m0, .inr (8, (.int 0 :: .int 20 :: .int 0 :: .int 0 :: .int 0 :: .int 60 :: .int 0 :: .int 3 :: .int 1 :: .int (-1) :: .ref mrf :: .ref mki :: .ref mpa :: .ref mta :: .ref mla :: .ref msl :: .ref mco :: .ref mhe :: .ref mso :: .ref msi :: .ref msh :: .ref mce :: .ref mca :: .ref mwo :: .ref mnu :: .ref mte :: .int 0 :: .int 0 :: .int 0 :: .int 0 :: .int 0 :: .ref mwa :: .ref mke :: .ref mma :: .ref mth :: .ref mtr :: .int 0 :: .int 0 :: []))), (mrf, .inl (cI, 8, .inl (fun _ => 0)))] sz) := by
  refine Met.ofW (cc := cX8_noTen) (maxL := 2) (ret := (some .int)) (by decide) rfl ?_
  intro p e s m args below meth c s₁ B hml hv
  obtain ⟨rfl, hsz, hP, hK, hD0, hN, hZ⟩ := hv
  have hx := B.exec
  have hb := B.bytes
  have hr := B.returns
  have hts := atoms_spec (ws := wsX8_noTen) B.pre
  have hown : s.vm.findClass RX8 = some m.cls := findClass_of_methodNamed B.named
  have hlocks := B.notSynchronized
  subst hsz
  have hD := hD0.self (sz := s.heap.size)
  have hA : ∀ q : Nat, s.heap.size ≤ q → va_A [(m0, .inr (8, (.int 0 :: .int 20 :: .int 0 :: .int 0 :: .int 0 :: .int 60 :: .int 0 :: .int 3 :: .int 1 :: .int (-1) :: .ref mrf :: .ref mki :: .ref mpa :: .ref mta :: .ref mla :: .ref msl :: .ref mco :: .ref mhe :: .ref mso :: .ref msi :: .ref msh :: .ref mce :: .ref mca :: .ref mwo :: .ref mnu :: .ref mte :: .int 0 :: .int 0 :: .int 0 :: .int 0 :: .int 0 :: .ref mwa :: .ref mke :: .ref mma :: .ref mth :: .ref mtr :: .int 0 :: .int 0 :: []))), (mrf, .inl (cI, 8, .inl (fun _ => 0)))] s.heap.size q := fun q h => Or.inr h
  have hS : va_S (va_A [(m0, .inr (8, (.int 0 :: .int 20 :: .int 0 :: .int 0 :: .int 0 :: .int 60 :: .int 0 :: .int 3 :: .int 1 :: .int (-1) :: .ref mrf :: .ref mki :: .ref mpa :: .ref mta :: .ref mla :: .ref msl :: .ref mco :: .ref mhe :: .ref mso :: .ref msi :: .ref msh :: .ref mce :: .ref mca :: .ref mwo :: .ref mnu :: .ref mte :: .int 0 :: .int 0 :: .int 0 :: .int 0 :: .int 0 :: .ref mwa :: .ref mke :: .ref mma :: .ref mth :: .ref mtr :: .int 0 :: .int 0 :: []))), (mrf, .inl (cI, 8, .inl (fun _ => 0)))] s.heap.size) s.heap s.heap [] := va_S.rf
  replace hP : va_P D vwCl _ s.heap := hP
  have hl := lv_entry ([.ref m0, .int (-3)]) (n := 2) (Nat.le_of_ble_eq_true rfl)
  rw [lg_entry_eq]
  generalize (lg_sl ([.ref m0, .int (-3)]) ++ List.replicate (2 - (lg_sl ([.ref m0, .int (-3)])).length) Slot.unset).toArray = ls at hl ⊢
  replace hl : lv_has ls 2 [(0, .ref m0), (1, .int (-3))] := hl
  refine zw_start (fun H locs hH hL => ?_)
  replace hP : va_P D vwCl [(m0, .inr (8, (.int 0 :: .int 20 :: .int 0 :: .int 0 :: .int 0 :: .int 60 :: .int 0 :: .int 3 :: .int 1 :: .int (-1) :: .ref mrf :: .ref mki :: .ref mpa :: .ref mta :: .ref mla :: .ref msl :: .ref mco :: .ref mhe :: .ref mso :: .ref msi :: .ref msh :: .ref mce :: .ref mca :: .ref mwo :: .ref mnu :: .ref mte :: .int 0 :: .int 0 :: .int 0 :: .int 0 :: .int 0 :: .ref mwa :: .ref mke :: .ref mma :: .ref mth :: .ref mtr :: .int 0 :: .int 0 :: []))), (mrf, .inl (cI, 8, .inl (fun _ => 0)))] H := by rw [hH]; exact hP
  replace hS : va_S (va_A [(m0, .inr (8, (.int 0 :: .int 20 :: .int 0 :: .int 0 :: .int 0 :: .int 60 :: .int 0 :: .int 3 :: .int 1 :: .int (-1) :: .ref mrf :: .ref mki :: .ref mpa :: .ref mta :: .ref mla :: .ref msl :: .ref mco :: .ref mhe :: .ref mso :: .ref msi :: .ref msh :: .ref mce :: .ref mca :: .ref mwo :: .ref mnu :: .ref mte :: .int 0 :: .int 0 :: .int 0 :: .int 0 :: .int 0 :: .ref mwa :: .ref mke :: .ref mma :: .ref mth :: .ref mtr :: .int 0 :: .int 0 :: []))), (mrf, .inl (cI, 8, .inl (fun _ => 0)))] s.heap.size) s.heap H locs := by rw [hH, hL]; exact hS
  clear hH hL
  refine lv_aload_n hx hb dX8_noTen_0 rfl (lv_at hl 0 rfl) ?_
  refine va_get (D := D) (ci := 8) (v := .ref mrf) (C := RX8) (T := TX8) (N := 38) hx hb hts hi_X8_noTen_8 hown hK hP 0 rfl rfl 10 (by decide) (hts (.fieldLink RX8 25 "TheLiningsInItModel" "refused" "[I") (List.mem_of_getElem? (i := 1) rfl)) (fun _ h9 => h9) rfl dX8_noTen_1 ?_
  refine lv_iload_n hx hb dX8_noTen_4 rfl (lv_at hl 1 rfl) ?_
  refine lv_ineg hx hb dX8_noTen_5 ?_
  refine lv_topi (fun y_1 ey_1 => ?_)
  obtain rfl : y_1 = 3 := ey_1.trans (by decide)
  refine lv_dup2_11 hx hb dX8_noTen_6 rfl rfl ?_
  refine va_iald hx hb hK hP 1 0 rfl rfl (zf_in (by decide) (by decide)) dX8_noTen_7 ?_
  refine lv_topi (fun x_2 ex_2 => ?_)
  obtain rfl : x_2 = 0 := ex_2
  refine lv_iconst (v := 1) hx hb dX8_noTen_8 (by decide) ?_
  refine lv_iadd hx hb dX8_noTen_9 ?_
  refine lv_topi (fun y_3 ey_3 => ?_)
  obtain rfl : y_3 = 1 := ey_3.trans (by decide)
  refine va_iast hx hb hK hP hD hS 1 0 rfl rfl (zf_in (by decide) (by decide)) dX8_noTen_10 (fun H locs hP hD hS => ?_)
  refine lv_iload_n hx hb dX8_noTen_11 rfl (lv_at hl 1 rfl) ?_
  refine lv_bipush (v := 10) hx hb dX8_noTen_12 (by decide) ?_
  refine lv_isub hx hb dX8_noTen_14 ?_
  refine lv_topi (fun y_4 ey_4 => ?_)
  obtain rfl : y_4 = (-13) := ey_4.trans (by decide)
  exact W.iret (v := (-13)) hx hb hr (fun t ht hW => ⟨⟨(-13), (), rfl, rfl, zP_nil, zD_nil⟩, hS.F ht⟩) hS.2.2 dX8_noTen_15
set_option maxHeartbeats 4000000 in
set_option maxRecDepth 100000 in
theorem c_M_noTen_5 (l : Launch) (D : va_G) (cI cJ cZ cP cS : ClassId) (m0 mrf mki mpa mta mla msl mco mhe mso msi msh mce mca mwo mnu mte mwa mke mma mth mtr : Nat)   (sz : Nat) : Met l yX8_noTen wsX8_noTen ({ frames := 0, cells := 0, slots := 0, locals := 0 }) (va_Pc [.ref m0, .int (-5)] (zW D (zKT cI cJ cZ cP cS) [(m0, .inr (8, (.int 0 :: .int 20 :: .int 0 :: .int 0 :: .int 0 :: .int 60 :: .int 0 :: .int 3 :: .int 1 :: .int (-1) :: .ref mrf :: .ref mki :: .ref mpa :: .ref mta :: .ref mla :: .ref msl :: .ref mco :: .ref mhe :: .ref mso :: .ref msi :: .ref msh :: .ref mce :: .ref mca :: .ref mwo :: .ref mnu :: .ref mte :: .int 0 :: .int 0 :: .int 0 :: .int 0 :: .int 0 :: .ref mwa :: .ref mke :: .ref mma :: .ref mth :: .ref mtr :: .int 0 :: .int 0 :: []))), (mrf, .inl (cI, 8, .inl (fun _ => 0)))] sz)) (va_Qi (fun (r : Int32) (_ : Unit) => r = (-15)) (zB D [(m0, .inr (8, (.int 0 :: .int 20 :: .int 0 :: .int 0 :: .int 0 :: .int 60 :: .int 0 :: .int 3 :: .int 1 :: .int (-1) :: .ref mrf :: .ref mki :: .ref mpa :: .ref mta :: .ref mla :: .ref msl :: .ref mco :: .ref mhe :: .ref mso :: .ref msi :: .ref msh :: .ref mce :: .ref mca :: .ref mwo :: .ref mnu :: .ref mte :: .int 0 :: .int 0 :: .int 0 :: .int 0 :: .int 0 :: .ref mwa :: .ref mke :: .ref mma :: .ref mth :: .ref mtr :: .int 0 :: .int 0 :: []))), (mrf, .inl (cI, 8, .inl (fun _ => 0)))] sz (fun (_ : Unit) => ([] : va_W))) (va_A [(m0, .inr (8, (.int 0 :: .int 20 :: .int 0 :: .int 0 :: .int 0 :: .int 60 :: .int 0 :: .int 3 :: .int 1 :: .int (-1) :: .ref mrf :: .ref mki :: .ref mpa :: .ref mta :: .ref mla :: .ref msl :: .ref mco :: .ref mhe :: .ref mso :: .ref msi :: .ref msh :: .ref mce :: .ref mca :: .ref mwo :: .ref mnu :: .ref mte :: .int 0 :: .int 0 :: .int 0 :: .int 0 :: .int 0 :: .ref mwa :: .ref mke :: .ref mma :: .ref mth :: .ref mtr :: .int 0 :: .int 0 :: []))), (mrf, .inl (cI, 8, .inl (fun _ => 0)))] sz)) 0 0 (va_A [(m0, .inr (8, (.int 0 :: .int 20 :: .int 0 :: .int 0 :: .int 0 :: .int 60 :: .int 0 :: .int 3 :: .int 1 :: .int (-1) :: .ref mrf :: .ref mki :: .ref mpa :: .ref mta :: .ref mla :: .ref msl :: .ref mco :: .ref mhe :: .ref mso :: .ref msi :: .ref msh :: .ref mce :: .ref mca :: .ref mwo :: .ref mnu :: .ref mte :: .int 0 :: .int 0 :: .int 0 :: .int 0 :: .int 0 :: .ref mwa :: .ref mke :: .ref mma :: .ref mth :: .ref mtr :: .int 0 :: .int 0 :: []))), (mrf, .inl (cI, 8, .inl (fun _ => 0)))] sz) := by
  refine Met.ofW (cc := cX8_noTen) (maxL := 2) (ret := (some .int)) (by decide) rfl ?_
  intro p e s m args below meth c s₁ B hml hv
  obtain ⟨rfl, hsz, hP, hK, hD0, hN, hZ⟩ := hv
  have hx := B.exec
  have hb := B.bytes
  have hr := B.returns
  have hts := atoms_spec (ws := wsX8_noTen) B.pre
  have hown : s.vm.findClass RX8 = some m.cls := findClass_of_methodNamed B.named
  have hlocks := B.notSynchronized
  subst hsz
  have hD := hD0.self (sz := s.heap.size)
  have hA : ∀ q : Nat, s.heap.size ≤ q → va_A [(m0, .inr (8, (.int 0 :: .int 20 :: .int 0 :: .int 0 :: .int 0 :: .int 60 :: .int 0 :: .int 3 :: .int 1 :: .int (-1) :: .ref mrf :: .ref mki :: .ref mpa :: .ref mta :: .ref mla :: .ref msl :: .ref mco :: .ref mhe :: .ref mso :: .ref msi :: .ref msh :: .ref mce :: .ref mca :: .ref mwo :: .ref mnu :: .ref mte :: .int 0 :: .int 0 :: .int 0 :: .int 0 :: .int 0 :: .ref mwa :: .ref mke :: .ref mma :: .ref mth :: .ref mtr :: .int 0 :: .int 0 :: []))), (mrf, .inl (cI, 8, .inl (fun _ => 0)))] s.heap.size q := fun q h => Or.inr h
  have hS : va_S (va_A [(m0, .inr (8, (.int 0 :: .int 20 :: .int 0 :: .int 0 :: .int 0 :: .int 60 :: .int 0 :: .int 3 :: .int 1 :: .int (-1) :: .ref mrf :: .ref mki :: .ref mpa :: .ref mta :: .ref mla :: .ref msl :: .ref mco :: .ref mhe :: .ref mso :: .ref msi :: .ref msh :: .ref mce :: .ref mca :: .ref mwo :: .ref mnu :: .ref mte :: .int 0 :: .int 0 :: .int 0 :: .int 0 :: .int 0 :: .ref mwa :: .ref mke :: .ref mma :: .ref mth :: .ref mtr :: .int 0 :: .int 0 :: []))), (mrf, .inl (cI, 8, .inl (fun _ => 0)))] s.heap.size) s.heap s.heap [] := va_S.rf
  replace hP : va_P D vwCl _ s.heap := hP
  have hl := lv_entry ([.ref m0, .int (-5)]) (n := 2) (Nat.le_of_ble_eq_true rfl)
  rw [lg_entry_eq]
  generalize (lg_sl ([.ref m0, .int (-5)]) ++ List.replicate (2 - (lg_sl ([.ref m0, .int (-5)])).length) Slot.unset).toArray = ls at hl ⊢
  replace hl : lv_has ls 2 [(0, .ref m0), (1, .int (-5))] := hl
  refine zw_start (fun H locs hH hL => ?_)
  replace hP : va_P D vwCl [(m0, .inr (8, (.int 0 :: .int 20 :: .int 0 :: .int 0 :: .int 0 :: .int 60 :: .int 0 :: .int 3 :: .int 1 :: .int (-1) :: .ref mrf :: .ref mki :: .ref mpa :: .ref mta :: .ref mla :: .ref msl :: .ref mco :: .ref mhe :: .ref mso :: .ref msi :: .ref msh :: .ref mce :: .ref mca :: .ref mwo :: .ref mnu :: .ref mte :: .int 0 :: .int 0 :: .int 0 :: .int 0 :: .int 0 :: .ref mwa :: .ref mke :: .ref mma :: .ref mth :: .ref mtr :: .int 0 :: .int 0 :: []))), (mrf, .inl (cI, 8, .inl (fun _ => 0)))] H := by rw [hH]; exact hP
  replace hS : va_S (va_A [(m0, .inr (8, (.int 0 :: .int 20 :: .int 0 :: .int 0 :: .int 0 :: .int 60 :: .int 0 :: .int 3 :: .int 1 :: .int (-1) :: .ref mrf :: .ref mki :: .ref mpa :: .ref mta :: .ref mla :: .ref msl :: .ref mco :: .ref mhe :: .ref mso :: .ref msi :: .ref msh :: .ref mce :: .ref mca :: .ref mwo :: .ref mnu :: .ref mte :: .int 0 :: .int 0 :: .int 0 :: .int 0 :: .int 0 :: .ref mwa :: .ref mke :: .ref mma :: .ref mth :: .ref mtr :: .int 0 :: .int 0 :: []))), (mrf, .inl (cI, 8, .inl (fun _ => 0)))] s.heap.size) s.heap H locs := by rw [hH, hL]; exact hS
  clear hH hL
  refine lv_aload_n hx hb dX8_noTen_0 rfl (lv_at hl 0 rfl) ?_
  refine va_get (D := D) (ci := 8) (v := .ref mrf) (C := RX8) (T := TX8) (N := 38) hx hb hts hi_X8_noTen_8 hown hK hP 0 rfl rfl 10 (by decide) (hts (.fieldLink RX8 25 "TheLiningsInItModel" "refused" "[I") (List.mem_of_getElem? (i := 1) rfl)) (fun _ h9 => h9) rfl dX8_noTen_1 ?_
  refine lv_iload_n hx hb dX8_noTen_4 rfl (lv_at hl 1 rfl) ?_
  refine lv_ineg hx hb dX8_noTen_5 ?_
  refine lv_topi (fun y_1 ey_1 => ?_)
  obtain rfl : y_1 = 5 := ey_1.trans (by decide)
  refine lv_dup2_11 hx hb dX8_noTen_6 rfl rfl ?_
  refine va_iald hx hb hK hP 1 0 rfl rfl (zf_in (by decide) (by decide)) dX8_noTen_7 ?_
  refine lv_topi (fun x_2 ex_2 => ?_)
  obtain rfl : x_2 = 0 := ex_2
  refine lv_iconst (v := 1) hx hb dX8_noTen_8 (by decide) ?_
  refine lv_iadd hx hb dX8_noTen_9 ?_
  refine lv_topi (fun y_3 ey_3 => ?_)
  obtain rfl : y_3 = 1 := ey_3.trans (by decide)
  refine va_iast hx hb hK hP hD hS 1 0 rfl rfl (zf_in (by decide) (by decide)) dX8_noTen_10 (fun H locs hP hD hS => ?_)
  refine lv_iload_n hx hb dX8_noTen_11 rfl (lv_at hl 1 rfl) ?_
  refine lv_bipush (v := 10) hx hb dX8_noTen_12 (by decide) ?_
  refine lv_isub hx hb dX8_noTen_14 ?_
  refine lv_topi (fun y_4 ey_4 => ?_)
  obtain rfl : y_4 = (-15) := ey_4.trans (by decide)
  exact W.iret (v := (-15)) hx hb hr (fun t ht hW => ⟨⟨(-15), (), rfl, rfl, zP_nil, zD_nil⟩, hS.F ht⟩) hS.2.2 dX8_noTen_15
set_option maxHeartbeats 4000000 in
set_option maxRecDepth 100000 in
theorem c_M_noTen_6 (l : Launch) (D : va_G) (cI cJ cZ cP cS : ClassId) (m0 mrf mki mpa mta mla msl mco mhe mso msi msh mce mca mwo mnu mte mwa mke mma mth mtr : Nat)   (sz : Nat) : Met l yX8_noTen wsX8_noTen ({ frames := 0, cells := 0, slots := 0, locals := 0 }) (va_Pc [.ref m0, .int (-6)] (zW D (zKT cI cJ cZ cP cS) [(m0, .inr (8, (.int 0 :: .int 20 :: .int 0 :: .int 0 :: .int 0 :: .int 60 :: .int 0 :: .int 3 :: .int 1 :: .int (-1) :: .ref mrf :: .ref mki :: .ref mpa :: .ref mta :: .ref mla :: .ref msl :: .ref mco :: .ref mhe :: .ref mso :: .ref msi :: .ref msh :: .ref mce :: .ref mca :: .ref mwo :: .ref mnu :: .ref mte :: .int 0 :: .int 0 :: .int 0 :: .int 0 :: .int 0 :: .ref mwa :: .ref mke :: .ref mma :: .ref mth :: .ref mtr :: .int 0 :: .int 0 :: []))), (mrf, .inl (cI, 8, .inl (fun _ => 0)))] sz)) (va_Qi (fun (r : Int32) (_ : Unit) => r = (-16)) (zB D [(m0, .inr (8, (.int 0 :: .int 20 :: .int 0 :: .int 0 :: .int 0 :: .int 60 :: .int 0 :: .int 3 :: .int 1 :: .int (-1) :: .ref mrf :: .ref mki :: .ref mpa :: .ref mta :: .ref mla :: .ref msl :: .ref mco :: .ref mhe :: .ref mso :: .ref msi :: .ref msh :: .ref mce :: .ref mca :: .ref mwo :: .ref mnu :: .ref mte :: .int 0 :: .int 0 :: .int 0 :: .int 0 :: .int 0 :: .ref mwa :: .ref mke :: .ref mma :: .ref mth :: .ref mtr :: .int 0 :: .int 0 :: []))), (mrf, .inl (cI, 8, .inl (fun _ => 0)))] sz (fun (_ : Unit) => ([] : va_W))) (va_A [(m0, .inr (8, (.int 0 :: .int 20 :: .int 0 :: .int 0 :: .int 0 :: .int 60 :: .int 0 :: .int 3 :: .int 1 :: .int (-1) :: .ref mrf :: .ref mki :: .ref mpa :: .ref mta :: .ref mla :: .ref msl :: .ref mco :: .ref mhe :: .ref mso :: .ref msi :: .ref msh :: .ref mce :: .ref mca :: .ref mwo :: .ref mnu :: .ref mte :: .int 0 :: .int 0 :: .int 0 :: .int 0 :: .int 0 :: .ref mwa :: .ref mke :: .ref mma :: .ref mth :: .ref mtr :: .int 0 :: .int 0 :: []))), (mrf, .inl (cI, 8, .inl (fun _ => 0)))] sz)) 0 0 (va_A [(m0, .inr (8, (.int 0 :: .int 20 :: .int 0 :: .int 0 :: .int 0 :: .int 60 :: .int 0 :: .int 3 :: .int 1 :: .int (-1) :: .ref mrf :: .ref mki :: .ref mpa :: .ref mta :: .ref mla :: .ref msl :: .ref mco :: .ref mhe :: .ref mso :: .ref msi :: .ref msh :: .ref mce :: .ref mca :: .ref mwo :: .ref mnu :: .ref mte :: .int 0 :: .int 0 :: .int 0 :: .int 0 :: .int 0 :: .ref mwa :: .ref mke :: .ref mma :: .ref mth :: .ref mtr :: .int 0 :: .int 0 :: []))), (mrf, .inl (cI, 8, .inl (fun _ => 0)))] sz) := by
  refine Met.ofW (cc := cX8_noTen) (maxL := 2) (ret := (some .int)) (by decide) rfl ?_
  intro p e s m args below meth c s₁ B hml hv
  obtain ⟨rfl, hsz, hP, hK, hD0, hN, hZ⟩ := hv
  have hx := B.exec
  have hb := B.bytes
  have hr := B.returns
  have hts := atoms_spec (ws := wsX8_noTen) B.pre
  have hown : s.vm.findClass RX8 = some m.cls := findClass_of_methodNamed B.named
  have hlocks := B.notSynchronized
  subst hsz
  have hD := hD0.self (sz := s.heap.size)
  have hA : ∀ q : Nat, s.heap.size ≤ q → va_A [(m0, .inr (8, (.int 0 :: .int 20 :: .int 0 :: .int 0 :: .int 0 :: .int 60 :: .int 0 :: .int 3 :: .int 1 :: .int (-1) :: .ref mrf :: .ref mki :: .ref mpa :: .ref mta :: .ref mla :: .ref msl :: .ref mco :: .ref mhe :: .ref mso :: .ref msi :: .ref msh :: .ref mce :: .ref mca :: .ref mwo :: .ref mnu :: .ref mte :: .int 0 :: .int 0 :: .int 0 :: .int 0 :: .int 0 :: .ref mwa :: .ref mke :: .ref mma :: .ref mth :: .ref mtr :: .int 0 :: .int 0 :: []))), (mrf, .inl (cI, 8, .inl (fun _ => 0)))] s.heap.size q := fun q h => Or.inr h
  have hS : va_S (va_A [(m0, .inr (8, (.int 0 :: .int 20 :: .int 0 :: .int 0 :: .int 0 :: .int 60 :: .int 0 :: .int 3 :: .int 1 :: .int (-1) :: .ref mrf :: .ref mki :: .ref mpa :: .ref mta :: .ref mla :: .ref msl :: .ref mco :: .ref mhe :: .ref mso :: .ref msi :: .ref msh :: .ref mce :: .ref mca :: .ref mwo :: .ref mnu :: .ref mte :: .int 0 :: .int 0 :: .int 0 :: .int 0 :: .int 0 :: .ref mwa :: .ref mke :: .ref mma :: .ref mth :: .ref mtr :: .int 0 :: .int 0 :: []))), (mrf, .inl (cI, 8, .inl (fun _ => 0)))] s.heap.size) s.heap s.heap [] := va_S.rf
  replace hP : va_P D vwCl _ s.heap := hP
  have hl := lv_entry ([.ref m0, .int (-6)]) (n := 2) (Nat.le_of_ble_eq_true rfl)
  rw [lg_entry_eq]
  generalize (lg_sl ([.ref m0, .int (-6)]) ++ List.replicate (2 - (lg_sl ([.ref m0, .int (-6)])).length) Slot.unset).toArray = ls at hl ⊢
  replace hl : lv_has ls 2 [(0, .ref m0), (1, .int (-6))] := hl
  refine zw_start (fun H locs hH hL => ?_)
  replace hP : va_P D vwCl [(m0, .inr (8, (.int 0 :: .int 20 :: .int 0 :: .int 0 :: .int 0 :: .int 60 :: .int 0 :: .int 3 :: .int 1 :: .int (-1) :: .ref mrf :: .ref mki :: .ref mpa :: .ref mta :: .ref mla :: .ref msl :: .ref mco :: .ref mhe :: .ref mso :: .ref msi :: .ref msh :: .ref mce :: .ref mca :: .ref mwo :: .ref mnu :: .ref mte :: .int 0 :: .int 0 :: .int 0 :: .int 0 :: .int 0 :: .ref mwa :: .ref mke :: .ref mma :: .ref mth :: .ref mtr :: .int 0 :: .int 0 :: []))), (mrf, .inl (cI, 8, .inl (fun _ => 0)))] H := by rw [hH]; exact hP
  replace hS : va_S (va_A [(m0, .inr (8, (.int 0 :: .int 20 :: .int 0 :: .int 0 :: .int 0 :: .int 60 :: .int 0 :: .int 3 :: .int 1 :: .int (-1) :: .ref mrf :: .ref mki :: .ref mpa :: .ref mta :: .ref mla :: .ref msl :: .ref mco :: .ref mhe :: .ref mso :: .ref msi :: .ref msh :: .ref mce :: .ref mca :: .ref mwo :: .ref mnu :: .ref mte :: .int 0 :: .int 0 :: .int 0 :: .int 0 :: .int 0 :: .ref mwa :: .ref mke :: .ref mma :: .ref mth :: .ref mtr :: .int 0 :: .int 0 :: []))), (mrf, .inl (cI, 8, .inl (fun _ => 0)))] s.heap.size) s.heap H locs := by rw [hH, hL]; exact hS
  clear hH hL
  refine lv_aload_n hx hb dX8_noTen_0 rfl (lv_at hl 0 rfl) ?_
  refine va_get (D := D) (ci := 8) (v := .ref mrf) (C := RX8) (T := TX8) (N := 38) hx hb hts hi_X8_noTen_8 hown hK hP 0 rfl rfl 10 (by decide) (hts (.fieldLink RX8 25 "TheLiningsInItModel" "refused" "[I") (List.mem_of_getElem? (i := 1) rfl)) (fun _ h9 => h9) rfl dX8_noTen_1 ?_
  refine lv_iload_n hx hb dX8_noTen_4 rfl (lv_at hl 1 rfl) ?_
  refine lv_ineg hx hb dX8_noTen_5 ?_
  refine lv_topi (fun y_1 ey_1 => ?_)
  obtain rfl : y_1 = 6 := ey_1.trans (by decide)
  refine lv_dup2_11 hx hb dX8_noTen_6 rfl rfl ?_
  refine va_iald hx hb hK hP 1 0 rfl rfl (zf_in (by decide) (by decide)) dX8_noTen_7 ?_
  refine lv_topi (fun x_2 ex_2 => ?_)
  obtain rfl : x_2 = 0 := ex_2
  refine lv_iconst (v := 1) hx hb dX8_noTen_8 (by decide) ?_
  refine lv_iadd hx hb dX8_noTen_9 ?_
  refine lv_topi (fun y_3 ey_3 => ?_)
  obtain rfl : y_3 = 1 := ey_3.trans (by decide)
  refine va_iast hx hb hK hP hD hS 1 0 rfl rfl (zf_in (by decide) (by decide)) dX8_noTen_10 (fun H locs hP hD hS => ?_)
  refine lv_iload_n hx hb dX8_noTen_11 rfl (lv_at hl 1 rfl) ?_
  refine lv_bipush (v := 10) hx hb dX8_noTen_12 (by decide) ?_
  refine lv_isub hx hb dX8_noTen_14 ?_
  refine lv_topi (fun y_4 ey_4 => ?_)
  obtain rfl : y_4 = (-16) := ey_4.trans (by decide)
  exact W.iret (v := (-16)) hx hb hr (fun t ht hW => ⟨⟨(-16), (), rfl, rfl, zP_nil, zD_nil⟩, hS.F ht⟩) hS.2.2 dX8_noTen_15
theorem hi_X8_wanted_8 : ∀ w ∈ u_ws RX8 TX8 38, w ∈ wsX8_wanted := by decide +kernel
set_option maxHeartbeats 4000000 in
set_option maxRecDepth 100000 in
theorem c_M_wanted (l : Launch) (D : va_G) (cI cJ cZ cP cS : ClassId) (m0 mrf mki mpa mta mla msl mco mhe mso msi msh mce mca mwo mnu mte mwa mke mma mth mtr : Nat) (s_ : Int32)  : Met l yX8_wanted wsX8_wanted ({ frames := 1, cells := 0, slots := 0, locals := 21 }) (va_Pc [.ref m0, .int s_] (zR D (zKT cI cJ cZ cP cS) [(m0, .inr (8, (.int 0 :: .int 20 :: .int 0 :: .int 0 :: .int 0 :: .int 60 :: .int 0 :: .int 3 :: .int 1 :: .int (-1) :: .ref mrf :: .ref mki :: .ref mpa :: .ref mta :: .ref mla :: .ref msl :: .ref mco :: .ref mhe :: .ref mso :: .ref msi :: .ref msh :: .ref mce :: .ref mca :: .ref mwo :: .ref mnu :: .ref mte :: .int 0 :: .int 0 :: .int 0 :: .int 0 :: .int 0 :: .ref mwa :: .ref mke :: .ref mma :: .ref mth :: .ref mtr :: .int 0 :: .int 0 :: []))), (mhe, .inl (cI, 8, .inl (fun _ => 0)))])) (vp_Si (fun r => (r = (-1) ∧ s_.toInt < 0) ∨ (r = (-1) ∧ 0 ≤ s_.toInt ∧ 8 ≤ s_.toInt) ∨ (r = (-3) ∧ 0 ≤ s_.toInt ∧ s_.toInt < 8))) 0 0 (fun _ => False) := by
  refine Met.ofW (cc := cX8_wanted) (maxL := 2) (ret := (some .int)) (by decide) rfl ?_
  intro p e s m args below meth c s₁ B hml hv
  obtain ⟨rfl, hP, hK, hN, hZ⟩ := hv
  have hx := B.exec
  have hb := B.bytes
  have hr := B.returns
  have hts := atoms_spec (ws := wsX8_wanted) B.pre
  have hown : s.vm.findClass RX8 = some m.cls := findClass_of_methodNamed B.named
  have hlocks := B.notSynchronized
  have hl := lv_entry ([.ref m0, .int s_]) (n := 2) (Nat.le_of_ble_eq_true rfl)
  rw [lg_entry_eq]
  generalize (lg_sl ([.ref m0, .int s_]) ++ List.replicate (2 - (lg_sl ([.ref m0, .int s_])).length) Slot.unset).toArray = ls at hl ⊢
  replace hl : lv_has ls 2 [(0, .ref m0), (1, .int s_)] := hl
  refine lv_aload_n hx hb dX8_wanted_0 rfl (lv_at hl 0 rfl) ?_
  refine lv_iload_n hx hb dX8_wanted_1 rfl (lv_at hl 1 rfl) ?_
  refine zc_V (As := [.int s_]) (rest := []) ⟨hx, hb, hml, hown, hts⟩ (c_M_isShelf l D cI cJ cZ cP cS m0 mrf mki mpa mta mla msl mco mhe mso msi msh mce mca mwo mnu mte mwa mke mma mth mtr (s_) ) (cwV 1 hts gX8_wanted_X8_isShelf rfl rfl rfl (by decide +kernel) ⟨Nat.le_of_ble_eq_true rfl, Nat.le_of_ble_eq_true rfl⟩) hK hN hZ hP [0] rfl (va_recv hK hP (ci := 8) (q0 := 0) rfl rfl) rfl hl.1 rfl (Nat.le_of_ble_eq_true rfl) dX8_wanted_2 ⟨Nat.le_of_ble_eq_true rfl, Nat.le_of_ble_eq_true rfl⟩ (fun r_1 hr_1 => ?_)
  rcases hr_1 with ⟨rfl, g_2⟩ | ⟨rfl, g_3, g_4⟩ | ⟨rfl, g_5, g_6⟩
  · refine lv_if_ne (tgt := 12) hx hb dX8_wanted_5 (by decide) (fun c_7 => ?_) (fun c_7 => ?_)
    · exact absurd c_7 (by decide)
    · refine lv_iconst (v := (-1)) hx hb dX8_wanted_8 (by decide) ?_
      refine lv_goto (tgt := 42) hx hb dX8_wanted_9 (by decide) ?_
      exact W.iret (v := (-1)) hx hb hr (fun t ht hW => ⟨(-1), rfl, Or.inl (⟨rfl, (by first | omega | decide)⟩), ht⟩) (fun q hq => by cases hq) dX8_wanted_42
  · refine lv_if_ne (tgt := 12) hx hb dX8_wanted_5 (by decide) (fun c_8 => ?_) (fun c_8 => ?_)
    · exact absurd c_8 (by decide)
    · refine lv_iconst (v := (-1)) hx hb dX8_wanted_8 (by decide) ?_
      refine lv_goto (tgt := 42) hx hb dX8_wanted_9 (by decide) ?_
      exact W.iret (v := (-1)) hx hb hr (fun t ht hW => ⟨(-1), rfl, Or.inr (Or.inl (⟨rfl, (by first | omega | decide), (by first | omega | decide)⟩)), ht⟩) (fun q hq => by cases hq) dX8_wanted_42
  · refine lv_if_ne (tgt := 12) hx hb dX8_wanted_5 (by decide) (fun c_9 => ?_) (fun c_9 => ?_)
    · refine lv_aload_n hx hb dX8_wanted_12 rfl (lv_at hl 0 rfl) ?_
      refine va_get (D := D) (ci := 8) (v := .ref mhe) (C := RX8) (T := TX8) (N := 38) hx hb hts hi_X8_wanted_8 hown hK hP 0 rfl rfl 17 (by decide) (hts (.fieldLink RX8 47 "TheLiningsInItModel" "held" "[I") (List.mem_of_getElem? (i := 1) rfl)) (fun _ h9 => h9) rfl dX8_wanted_13 ?_
      refine lv_iload_n hx hb dX8_wanted_16 rfl (lv_at hl 1 rfl) ?_
      refine va_iald hx hb hK hP 1 0 rfl rfl (zf_in (by omega) (by omega)) dX8_wanted_17 ?_
      refine lv_topi (fun x_10 ex_10 => ?_)
      obtain rfl : x_10 = 0 := ex_10
      refine lv_iconst (v := 2) hx hb dX8_wanted_18 (by decide) ?_
      refine lv_icmp_ne (tgt := 27) hx hb dX8_wanted_19 (by decide) (fun c_11 => ?_) (fun c_11 => ?_)
      · refine lv_aload_n hx hb dX8_wanted_27 rfl (lv_at hl 0 rfl) ?_
        refine va_get (D := D) (ci := 8) (v := .ref mhe) (C := RX8) (T := TX8) (N := 38) hx hb hts hi_X8_wanted_8 hown hK hP 0 rfl rfl 17 (by decide) (hts (.fieldLink RX8 47 "TheLiningsInItModel" "held" "[I") (List.mem_of_getElem? (i := 1) rfl)) (fun _ h9 => h9) rfl dX8_wanted_28 ?_
        refine lv_iload_n hx hb dX8_wanted_31 rfl (lv_at hl 1 rfl) ?_
        refine va_iald hx hb hK hP 1 0 rfl rfl (zf_in (by omega) (by omega)) dX8_wanted_32 ?_
        refine lv_topi (fun x_12 ex_12 => ?_)
        obtain rfl : x_12 = 0 := ex_12
        refine lv_if_ne (tgt := 41) hx hb dX8_wanted_33 (by decide) (fun c_13 => ?_) (fun c_13 => ?_)
        · exact absurd c_13 (by decide)
        · refine lv_bipush (v := (-3)) hx hb dX8_wanted_36 (by decide) ?_
          refine lv_goto (tgt := 42) hx hb dX8_wanted_38 (by decide) ?_
          exact W.iret (v := (-3)) hx hb hr (fun t ht hW => ⟨(-3), rfl, Or.inr (Or.inr (⟨rfl, (by first | omega | decide), (by first | omega | decide)⟩)), ht⟩) (fun q hq => by cases hq) dX8_wanted_42
      · exact absurd c_11 (by decide)
    · exact absurd c_9 (by decide)
theorem hi_X8_row_8 : ∀ w ∈ u_ws RX8 TX8 38, w ∈ wsX8_row := by decide +kernel
set_option maxHeartbeats 4000000 in
set_option maxRecDepth 100000 in
theorem c_M_row (l : Launch) (D : va_G) (cI cJ cZ cP cS : ClassId) (m0 mrf mki mpa mta mla msl mco mhe mso msi msh mce mca mwo mnu mte mwa mke mma mth mtr : Nat) (s_ o n : Int32)  (sz : Nat) : Met l yX8_row wsX8_row ({ frames := 1, cells := 0, slots := 0, locals := 21 }) (va_Pc [.ref m0, .int s_, .int o, .int n] (zW D (zKT cI cJ cZ cP cS) [(m0, .inr (8, (.int 0 :: .int 20 :: .int 0 :: .int 0 :: .int 0 :: .int 60 :: .int 0 :: .int 3 :: .int 1 :: .int (-1) :: .ref mrf :: .ref mki :: .ref mpa :: .ref mta :: .ref mla :: .ref msl :: .ref mco :: .ref mhe :: .ref mso :: .ref msi :: .ref msh :: .ref mce :: .ref mca :: .ref mwo :: .ref mnu :: .ref mte :: .int 0 :: .int 0 :: .int 0 :: .int 0 :: .int 0 :: .ref mwa :: .ref mke :: .ref mma :: .ref mth :: .ref mtr :: .int 0 :: .int 0 :: []))), (mrf, .inl (cI, 8, .inl (fun _ => 0))), (mhe, .inl (cI, 8, .inl (fun _ => 0))), (mso, .inl (cI, 8, .inl (fun _ => 0))), (msi, .inl (cI, 8, .inl (fun _ => 0))), (mce, .inl (cJ, 1280, .inr (.inl (fun _ => 0))))] sz)) (va_Qi (fun (r : Int32) (_ : Unit) => (r = (-1) ∧ s_.toInt < 0) ∨ (r = (-1) ∧ 0 ≤ s_.toInt ∧ 8 ≤ s_.toInt) ∨ (r = (-6) ∧ 0 ≤ s_.toInt ∧ s_.toInt < 8 ∧ 0 ≤ n.toInt ∧ o.toInt < 0) ∨ (r = 1 ∧ 0 ≤ s_.toInt ∧ s_.toInt < 8 ∧ 0 ≤ n.toInt ∧ 0 ≤ o.toInt ∧ o.toInt ≤ 3 ∧ n.toInt ≤ 160) ∨ (r = (-7) ∧ 0 ≤ s_.toInt ∧ s_.toInt < 8 ∧ 0 ≤ n.toInt ∧ 0 ≤ o.toInt ∧ o.toInt ≤ 3 ∧ 160 < n.toInt) ∨ (r = (-6) ∧ 0 ≤ s_.toInt ∧ s_.toInt < 8 ∧ 0 ≤ n.toInt ∧ 0 ≤ o.toInt ∧ 3 < o.toInt) ∨ (r = (-4) ∧ 0 ≤ s_.toInt ∧ s_.toInt < 8 ∧ n.toInt < 0)) (zB D [(m0, .inr (8, (.int 0 :: .int 20 :: .int 0 :: .int 0 :: .int 0 :: .int 60 :: .int 0 :: .int 3 :: .int 1 :: .int (-1) :: .ref mrf :: .ref mki :: .ref mpa :: .ref mta :: .ref mla :: .ref msl :: .ref mco :: .ref mhe :: .ref mso :: .ref msi :: .ref msh :: .ref mce :: .ref mca :: .ref mwo :: .ref mnu :: .ref mte :: .int 0 :: .int 0 :: .int 0 :: .int 0 :: .int 0 :: .ref mwa :: .ref mke :: .ref mma :: .ref mth :: .ref mtr :: .int 0 :: .int 0 :: []))), (mrf, .inl (cI, 8, .inl (fun _ => 0))), (mhe, .inl (cI, 8, .inl (fun _ => 0))), (mso, .inl (cI, 8, .inl (fun _ => 0))), (msi, .inl (cI, 8, .inl (fun _ => 0))), (mce, .inl (cJ, 1280, .inr (.inl (fun _ => 0))))] sz (fun (_ : Unit) => ([] : va_W))) (va_A [(m0, .inr (8, (.int 0 :: .int 20 :: .int 0 :: .int 0 :: .int 0 :: .int 60 :: .int 0 :: .int 3 :: .int 1 :: .int (-1) :: .ref mrf :: .ref mki :: .ref mpa :: .ref mta :: .ref mla :: .ref msl :: .ref mco :: .ref mhe :: .ref mso :: .ref msi :: .ref msh :: .ref mce :: .ref mca :: .ref mwo :: .ref mnu :: .ref mte :: .int 0 :: .int 0 :: .int 0 :: .int 0 :: .int 0 :: .ref mwa :: .ref mke :: .ref mma :: .ref mth :: .ref mtr :: .int 0 :: .int 0 :: []))), (mrf, .inl (cI, 8, .inl (fun _ => 0))), (mhe, .inl (cI, 8, .inl (fun _ => 0))), (mso, .inl (cI, 8, .inl (fun _ => 0))), (msi, .inl (cI, 8, .inl (fun _ => 0))), (mce, .inl (cJ, 1280, .inr (.inl (fun _ => 0))))] sz)) 0 0 (va_A [(m0, .inr (8, (.int 0 :: .int 20 :: .int 0 :: .int 0 :: .int 0 :: .int 60 :: .int 0 :: .int 3 :: .int 1 :: .int (-1) :: .ref mrf :: .ref mki :: .ref mpa :: .ref mta :: .ref mla :: .ref msl :: .ref mco :: .ref mhe :: .ref mso :: .ref msi :: .ref msh :: .ref mce :: .ref mca :: .ref mwo :: .ref mnu :: .ref mte :: .int 0 :: .int 0 :: .int 0 :: .int 0 :: .int 0 :: .ref mwa :: .ref mke :: .ref mma :: .ref mth :: .ref mtr :: .int 0 :: .int 0 :: []))), (mrf, .inl (cI, 8, .inl (fun _ => 0))), (mhe, .inl (cI, 8, .inl (fun _ => 0))), (mso, .inl (cI, 8, .inl (fun _ => 0))), (msi, .inl (cI, 8, .inl (fun _ => 0))), (mce, .inl (cJ, 1280, .inr (.inl (fun _ => 0))))] sz) := by
  refine Met.ofW (cc := cX8_row) (maxL := 5) (ret := (some .int)) (by decide) rfl ?_
  intro p e s m args below meth c s₁ B hml hv
  obtain ⟨rfl, hsz, hP, hK, hD0, hN, hZ⟩ := hv
  have hx := B.exec
  have hb := B.bytes
  have hr := B.returns
  have hts := atoms_spec (ws := wsX8_row) B.pre
  have hown : s.vm.findClass RX8 = some m.cls := findClass_of_methodNamed B.named
  have hlocks := B.notSynchronized
  subst hsz
  have hD := hD0.self (sz := s.heap.size)
  have hA : ∀ q : Nat, s.heap.size ≤ q → va_A [(m0, .inr (8, (.int 0 :: .int 20 :: .int 0 :: .int 0 :: .int 0 :: .int 60 :: .int 0 :: .int 3 :: .int 1 :: .int (-1) :: .ref mrf :: .ref mki :: .ref mpa :: .ref mta :: .ref mla :: .ref msl :: .ref mco :: .ref mhe :: .ref mso :: .ref msi :: .ref msh :: .ref mce :: .ref mca :: .ref mwo :: .ref mnu :: .ref mte :: .int 0 :: .int 0 :: .int 0 :: .int 0 :: .int 0 :: .ref mwa :: .ref mke :: .ref mma :: .ref mth :: .ref mtr :: .int 0 :: .int 0 :: []))), (mrf, .inl (cI, 8, .inl (fun _ => 0))), (mhe, .inl (cI, 8, .inl (fun _ => 0))), (mso, .inl (cI, 8, .inl (fun _ => 0))), (msi, .inl (cI, 8, .inl (fun _ => 0))), (mce, .inl (cJ, 1280, .inr (.inl (fun _ => 0))))] s.heap.size q := fun q h => Or.inr h
  have hS : va_S (va_A [(m0, .inr (8, (.int 0 :: .int 20 :: .int 0 :: .int 0 :: .int 0 :: .int 60 :: .int 0 :: .int 3 :: .int 1 :: .int (-1) :: .ref mrf :: .ref mki :: .ref mpa :: .ref mta :: .ref mla :: .ref msl :: .ref mco :: .ref mhe :: .ref mso :: .ref msi :: .ref msh :: .ref mce :: .ref mca :: .ref mwo :: .ref mnu :: .ref mte :: .int 0 :: .int 0 :: .int 0 :: .int 0 :: .int 0 :: .ref mwa :: .ref mke :: .ref mma :: .ref mth :: .ref mtr :: .int 0 :: .int 0 :: []))), (mrf, .inl (cI, 8, .inl (fun _ => 0))), (mhe, .inl (cI, 8, .inl (fun _ => 0))), (mso, .inl (cI, 8, .inl (fun _ => 0))), (msi, .inl (cI, 8, .inl (fun _ => 0))), (mce, .inl (cJ, 1280, .inr (.inl (fun _ => 0))))] s.heap.size) s.heap s.heap [] := va_S.rf
  replace hP : va_P D vwCl _ s.heap := hP
  have hl := lv_entry ([.ref m0, .int s_, .int o, .int n]) (n := 5) (Nat.le_of_ble_eq_true rfl)
  rw [lg_entry_eq]
  generalize (lg_sl ([.ref m0, .int s_, .int o, .int n]) ++ List.replicate (5 - (lg_sl ([.ref m0, .int s_, .int o, .int n])).length) Slot.unset).toArray = ls at hl ⊢
  replace hl : lv_has ls 5 [(0, .ref m0), (1, .int s_), (2, .int o), (3, .int n)] := hl
  refine zw_start (fun H locs hH hL => ?_)
  replace hP : va_P D vwCl [(m0, .inr (8, (.int 0 :: .int 20 :: .int 0 :: .int 0 :: .int 0 :: .int 60 :: .int 0 :: .int 3 :: .int 1 :: .int (-1) :: .ref mrf :: .ref mki :: .ref mpa :: .ref mta :: .ref mla :: .ref msl :: .ref mco :: .ref mhe :: .ref mso :: .ref msi :: .ref msh :: .ref mce :: .ref mca :: .ref mwo :: .ref mnu :: .ref mte :: .int 0 :: .int 0 :: .int 0 :: .int 0 :: .int 0 :: .ref mwa :: .ref mke :: .ref mma :: .ref mth :: .ref mtr :: .int 0 :: .int 0 :: []))), (mrf, .inl (cI, 8, .inl (fun _ => 0))), (mhe, .inl (cI, 8, .inl (fun _ => 0))), (mso, .inl (cI, 8, .inl (fun _ => 0))), (msi, .inl (cI, 8, .inl (fun _ => 0))), (mce, .inl (cJ, 1280, .inr (.inl (fun _ => 0))))] H := by rw [hH]; exact hP
  replace hS : va_S (va_A [(m0, .inr (8, (.int 0 :: .int 20 :: .int 0 :: .int 0 :: .int 0 :: .int 60 :: .int 0 :: .int 3 :: .int 1 :: .int (-1) :: .ref mrf :: .ref mki :: .ref mpa :: .ref mta :: .ref mla :: .ref msl :: .ref mco :: .ref mhe :: .ref mso :: .ref msi :: .ref msh :: .ref mce :: .ref mca :: .ref mwo :: .ref mnu :: .ref mte :: .int 0 :: .int 0 :: .int 0 :: .int 0 :: .int 0 :: .ref mwa :: .ref mke :: .ref mma :: .ref mth :: .ref mtr :: .int 0 :: .int 0 :: []))), (mrf, .inl (cI, 8, .inl (fun _ => 0))), (mhe, .inl (cI, 8, .inl (fun _ => 0))), (mso, .inl (cI, 8, .inl (fun _ => 0))), (msi, .inl (cI, 8, .inl (fun _ => 0))), (mce, .inl (cJ, 1280, .inr (.inl (fun _ => 0))))] s.heap.size) s.heap H locs := by rw [hH, hL]; exact hS
  clear hH hL
  refine lv_aload_n hx hb dX8_row_0 rfl (lv_at hl 0 rfl) ?_
  refine lv_iload_n hx hb dX8_row_1 rfl (lv_at hl 1 rfl) ?_
  refine zc_V (As := [.int s_]) (rest := []) ⟨hx, hb, hml, hown, hts⟩ (c_M_isShelf l D cI cJ cZ cP cS m0 mrf mki mpa mta mla msl mco mhe mso msi msh mce mca mwo mnu mte mwa mke mma mth mtr (s_) ) (cwV 1 hts gX8_row_X8_isShelf rfl rfl rfl (by decide +kernel) ⟨Nat.le_of_ble_eq_true rfl, Nat.le_of_ble_eq_true rfl⟩) hK hN (hZ.kept hS) hP [0] rfl (va_recv hK hP (ci := 8) (q0 := 0) rfl rfl) rfl hl.1 rfl (Nat.le_of_ble_eq_true rfl) dX8_row_2 ⟨Nat.le_of_ble_eq_true rfl, Nat.le_of_ble_eq_true rfl⟩ (fun r_1 hr_1 => ?_)
  rcases hr_1 with ⟨rfl, g_2⟩ | ⟨rfl, g_3, g_4⟩ | ⟨rfl, g_5, g_6⟩
  · refine lv_if_ne (tgt := 14) hx hb dX8_row_5 (by decide) (fun c_7 => ?_) (fun c_7 => ?_)
    · exact absurd c_7 (by decide)
    · refine lv_aload_n hx hb dX8_row_8 rfl (lv_at hl 0 rfl) ?_
      refine lv_iconst (v := (-1)) hx hb dX8_row_9 (by decide) ?_
      skip
      refine zw_V (As := [.int (-1)]) (rest := []) (wr := []) ⟨hx, hb, hml, hown, hts⟩ (c_M_no_1 l D cI cJ cZ cP cS m0 mrf mki mpa mta mla msl mco mhe mso msi msh mce mca mwo mnu mte mwa mke mma mth mtr  H.size) (cwV 1 hts gX8_row_X8_no rfl rfl rfl (by decide +kernel) ⟨Nat.le_of_ble_eq_true rfl, Nat.le_of_ble_eq_true rfl⟩) hK hN (hZ.kept hS) hP hD hS hA [0, 1] [] rfl rfl (by decide) (by decide) (by decide) (va_recv hK hP (ci := 8) (q0 := 0) rfl rfl) rfl hl.1 rfl (Nat.le_of_ble_eq_true rfl) dX8_row_10 ⟨Nat.le_of_ble_eq_true rfl, Nat.le_of_ble_eq_true rfl⟩ (fun r_8 u_9 H locs hr_8 hP hD hS => ?_)
      obtain rfl := hr_8
      exact W.iret (v := (-1)) hx hb hr (fun t ht hW => ⟨⟨(-1), (), rfl, Or.inl (⟨rfl, (by first | omega | decide)⟩), zP_nil, zD_nil⟩, hS.F ht⟩) hS.2.2 dX8_row_13
  · refine lv_if_ne (tgt := 14) hx hb dX8_row_5 (by decide) (fun c_10 => ?_) (fun c_10 => ?_)
    · exact absurd c_10 (by decide)
    · refine lv_aload_n hx hb dX8_row_8 rfl (lv_at hl 0 rfl) ?_
      refine lv_iconst (v := (-1)) hx hb dX8_row_9 (by decide) ?_
      skip
      refine zw_V (As := [.int (-1)]) (rest := []) (wr := []) ⟨hx, hb, hml, hown, hts⟩ (c_M_no_1 l D cI cJ cZ cP cS m0 mrf mki mpa mta mla msl mco mhe mso msi msh mce mca mwo mnu mte mwa mke mma mth mtr  H.size) (cwV 1 hts gX8_row_X8_no rfl rfl rfl (by decide +kernel) ⟨Nat.le_of_ble_eq_true rfl, Nat.le_of_ble_eq_true rfl⟩) hK hN (hZ.kept hS) hP hD hS hA [0, 1] [] rfl rfl (by decide) (by decide) (by decide) (va_recv hK hP (ci := 8) (q0 := 0) rfl rfl) rfl hl.1 rfl (Nat.le_of_ble_eq_true rfl) dX8_row_10 ⟨Nat.le_of_ble_eq_true rfl, Nat.le_of_ble_eq_true rfl⟩ (fun r_11 u_12 H locs hr_11 hP hD hS => ?_)
      obtain rfl := hr_11
      exact W.iret (v := (-1)) hx hb hr (fun t ht hW => ⟨⟨(-1), (), rfl, Or.inr (Or.inl (⟨rfl, (by first | omega | decide), (by first | omega | decide)⟩)), zP_nil, zD_nil⟩, hS.F ht⟩) hS.2.2 dX8_row_13
  · refine lv_if_ne (tgt := 14) hx hb dX8_row_5 (by decide) (fun c_13 => ?_) (fun c_13 => ?_)
    · refine lv_iload_n hx hb dX8_row_14 rfl (lv_at hl 3 rfl) ?_
      refine lv_if_ge (tgt := 25) hx hb dX8_row_15 (by decide) (fun c_14 => ?_) (fun c_14 => ?_)
      · have fc_14 : 0 ≤ n.toInt := zf_le c_14 (by decide) rfl
        refine lv_iload_n hx hb dX8_row_25 rfl (lv_at hl 2 rfl) ?_
        refine lv_if_lt (tgt := 34) hx hb dX8_row_26 (by decide) (fun c_15 => ?_) (fun c_15 => ?_)
        · have fc_15 : o.toInt < 0 := zf_lt c_15 rfl (by decide)
          refine lv_aload_n hx hb dX8_row_34 rfl (lv_at hl 0 rfl) ?_
          refine lv_bipush (v := (-6)) hx hb dX8_row_35 (by decide) ?_
          skip
          refine zw_V (As := [.int (-6)]) (rest := []) (wr := []) ⟨hx, hb, hml, hown, hts⟩ (c_M_no_6 l D cI cJ cZ cP cS m0 mrf mki mpa mta mla msl mco mhe mso msi msh mce mca mwo mnu mte mwa mke mma mth mtr  H.size) (cwV 1 hts gX8_row_X8_no rfl rfl rfl (by decide +kernel) ⟨Nat.le_of_ble_eq_true rfl, Nat.le_of_ble_eq_true rfl⟩) hK hN (hZ.kept hS) hP hD hS hA [0, 1] [] rfl rfl (by decide) (by decide) (by decide) (va_recv hK hP (ci := 8) (q0 := 0) rfl rfl) rfl hl.1 rfl (Nat.le_of_ble_eq_true rfl) dX8_row_37 ⟨Nat.le_of_ble_eq_true rfl, Nat.le_of_ble_eq_true rfl⟩ (fun r_16 u_17 H locs hr_16 hP hD hS => ?_)
          obtain rfl := hr_16
          exact W.iret (v := (-6)) hx hb hr (fun t ht hW => ⟨⟨(-6), (), rfl, Or.inr (Or.inr (Or.inl (⟨rfl, (by first | omega | decide), (by first | omega | decide), (by first | omega | decide), (by first | omega | decide)⟩))), zP_nil, zD_nil⟩, hS.F ht⟩) hS.2.2 dX8_row_40
        · have fc_15 : 0 ≤ o.toInt := zf_nlt c_15 rfl (by decide)
          refine lv_iload_n hx hb dX8_row_29 rfl (lv_at hl 2 rfl) ?_
          refine lv_iconst (v := 3) hx hb dX8_row_30 (by decide) ?_
          refine lv_icmp_le (tgt := 41) hx hb dX8_row_31 (by decide) (fun c_18 => ?_) (fun c_18 => ?_)
          · have fc_18 : o.toInt ≤ 3 := zf_le c_18 rfl (by decide)
            refine lv_iload_n hx hb dX8_row_41 rfl (lv_at hl 3 rfl) ?_
            refine lv_sipush (v := 160) hx hb dX8_row_42 (by decide) ?_
            refine lv_icmp_le (tgt := 55) hx hb dX8_row_45 (by decide) (fun c_19 => ?_) (fun c_19 => ?_)
            · have fc_19 : n.toInt ≤ 160 := zf_le c_19 rfl (by decide)
              refine lv_aload_n hx hb dX8_row_55 rfl (lv_at hl 0 rfl) ?_
              refine va_get (D := D) (ci := 8) (v := .ref mhe) (C := RX8) (T := TX8) (N := 38) hx hb hts hi_X8_row_8 hown hK hP 0 rfl rfl 17 (by decide) (hts (.fieldLink RX8 47 "TheLiningsInItModel" "held" "[I") (List.mem_of_getElem? (i := 1) rfl)) (fun _ h9 => h9) rfl dX8_row_56 ?_
              refine lv_iload_n hx hb dX8_row_59 rfl (lv_at hl 1 rfl) ?_
              refine lv_iconst (v := 1) hx hb dX8_row_60 (by decide) ?_
              refine va_iast hx hb hK hP hD hS 2 0 rfl rfl (zf_in (by omega) (by omega)) dX8_row_61 (fun H locs hP hD hS => ?_)
              replace hP : va_P D vwCl [(m0, .inr (8, (.int 0 :: .int 20 :: .int 0 :: .int 0 :: .int 0 :: .int 60 :: .int 0 :: .int 3 :: .int 1 :: .int (-1) :: .ref mrf :: .ref mki :: .ref mpa :: .ref mta :: .ref mla :: .ref msl :: .ref mco :: .ref mhe :: .ref mso :: .ref msi :: .ref msh :: .ref mce :: .ref mca :: .ref mwo :: .ref mnu :: .ref mte :: .int 0 :: .int 0 :: .int 0 :: .int 0 :: .int 0 :: .ref mwa :: .ref mke :: .ref mma :: .ref mth :: .ref mtr :: .int 0 :: .int 0 :: []))), (mrf, .inl (cI, 8, .inl (fun _ => 0))), (mhe, .inl (cI, 8, .inl (upd (fun _ => 0) s_.toNatClampNeg 1))), (mso, .inl (cI, 8, .inl (fun _ => 0))), (msi, .inl (cI, 8, .inl (fun _ => 0))), (mce, .inl (cJ, 1280, .inr (.inl (fun _ => 0))))] H := hP
              replace hD : va_D _ [(m0, .inr (8, (.int 0 :: .int 20 :: .int 0 :: .int 0 :: .int 0 :: .int 60 :: .int 0 :: .int 3 :: .int 1 :: .int (-1) :: .ref mrf :: .ref mki :: .ref mpa :: .ref mta :: .ref mla :: .ref msl :: .ref mco :: .ref mhe :: .ref mso :: .ref msi :: .ref msh :: .ref mce :: .ref mca :: .ref mwo :: .ref mnu :: .ref mte :: .int 0 :: .int 0 :: .int 0 :: .int 0 :: .int 0 :: .ref mwa :: .ref mke :: .ref mma :: .ref mth :: .ref mtr :: .int 0 :: .int 0 :: []))), (mrf, .inl (cI, 8, .inl (fun _ => 0))), (mhe, .inl (cI, 8, .inl (upd (fun _ => 0) s_.toNatClampNeg 1))), (mso, .inl (cI, 8, .inl (fun _ => 0))), (msi, .inl (cI, 8, .inl (fun _ => 0))), (mce, .inl (cJ, 1280, .inr (.inl (fun _ => 0))))] := hD
              refine lv_aload_n hx hb dX8_row_62 rfl (lv_at hl 0 rfl) ?_
              refine va_get (D := D) (ci := 8) (v := .ref mso) (C := RX8) (T := TX8) (N := 38) hx hb hts hi_X8_row_8 hown hK hP 0 rfl rfl 18 (by decide) (hts (.fieldLink RX8 50 "TheLiningsInItModel" "sort" "[I") (List.mem_of_getElem? (i := 2) rfl)) (fun _ h9 => h9) rfl dX8_row_63 ?_
              refine lv_iload_n hx hb dX8_row_66 rfl (lv_at hl 1 rfl) ?_
              refine lv_iload_n hx hb dX8_row_67 rfl (lv_at hl 2 rfl) ?_
              refine va_iast hx hb hK hP hD hS 3 0 rfl rfl (zf_in (by omega) (by omega)) dX8_row_68 (fun H locs hP hD hS => ?_)
              replace hP : va_P D vwCl [(m0, .inr (8, (.int 0 :: .int 20 :: .int 0 :: .int 0 :: .int 0 :: .int 60 :: .int 0 :: .int 3 :: .int 1 :: .int (-1) :: .ref mrf :: .ref mki :: .ref mpa :: .ref mta :: .ref mla :: .ref msl :: .ref mco :: .ref mhe :: .ref mso :: .ref msi :: .ref msh :: .ref mce :: .ref mca :: .ref mwo :: .ref mnu :: .ref mte :: .int 0 :: .int 0 :: .int 0 :: .int 0 :: .int 0 :: .ref mwa :: .ref mke :: .ref mma :: .ref mth :: .ref mtr :: .int 0 :: .int 0 :: []))), (mrf, .inl (cI, 8, .inl (fun _ => 0))), (mhe, .inl (cI, 8, .inl (upd (fun _ => 0) s_.toNatClampNeg 1))), (mso, .inl (cI, 8, .inl (upd (fun _ => 0) s_.toNatClampNeg o))), (msi, .inl (cI, 8, .inl (fun _ => 0))), (mce, .inl (cJ, 1280, .inr (.inl (fun _ => 0))))] H := hP
              replace hD : va_D _ [(m0, .inr (8, (.int 0 :: .int 20 :: .int 0 :: .int 0 :: .int 0 :: .int 60 :: .int 0 :: .int 3 :: .int 1 :: .int (-1) :: .ref mrf :: .ref mki :: .ref mpa :: .ref mta :: .ref mla :: .ref msl :: .ref mco :: .ref mhe :: .ref mso :: .ref msi :: .ref msh :: .ref mce :: .ref mca :: .ref mwo :: .ref mnu :: .ref mte :: .int 0 :: .int 0 :: .int 0 :: .int 0 :: .int 0 :: .ref mwa :: .ref mke :: .ref mma :: .ref mth :: .ref mtr :: .int 0 :: .int 0 :: []))), (mrf, .inl (cI, 8, .inl (fun _ => 0))), (mhe, .inl (cI, 8, .inl (upd (fun _ => 0) s_.toNatClampNeg 1))), (mso, .inl (cI, 8, .inl (upd (fun _ => 0) s_.toNatClampNeg o))), (msi, .inl (cI, 8, .inl (fun _ => 0))), (mce, .inl (cJ, 1280, .inr (.inl (fun _ => 0))))] := hD
              refine lv_aload_n hx hb dX8_row_69 rfl (lv_at hl 0 rfl) ?_
              refine va_get (D := D) (ci := 8) (v := .ref msi) (C := RX8) (T := TX8) (N := 38) hx hb hts hi_X8_row_8 hown hK hP 0 rfl rfl 19 (by decide) (hts (.fieldLink RX8 53 "TheLiningsInItModel" "size" "[I") (List.mem_of_getElem? (i := 3) rfl)) (fun _ h9 => h9) rfl dX8_row_70 ?_
              refine lv_iload_n hx hb dX8_row_73 rfl (lv_at hl 1 rfl) ?_
              refine lv_iload_n hx hb dX8_row_74 rfl (lv_at hl 3 rfl) ?_
              refine va_iast hx hb hK hP hD hS 4 0 rfl rfl (zf_in (by omega) (by omega)) dX8_row_75 (fun H locs hP hD hS => ?_)
              replace hP : va_P D vwCl [(m0, .inr (8, (.int 0 :: .int 20 :: .int 0 :: .int 0 :: .int 0 :: .int 60 :: .int 0 :: .int 3 :: .int 1 :: .int (-1) :: .ref mrf :: .ref mki :: .ref mpa :: .ref mta :: .ref mla :: .ref msl :: .ref mco :: .ref mhe :: .ref mso :: .ref msi :: .ref msh :: .ref mce :: .ref mca :: .ref mwo :: .ref mnu :: .ref mte :: .int 0 :: .int 0 :: .int 0 :: .int 0 :: .int 0 :: .ref mwa :: .ref mke :: .ref mma :: .ref mth :: .ref mtr :: .int 0 :: .int 0 :: []))), (mrf, .inl (cI, 8, .inl (fun _ => 0))), (mhe, .inl (cI, 8, .inl (upd (fun _ => 0) s_.toNatClampNeg 1))), (mso, .inl (cI, 8, .inl (upd (fun _ => 0) s_.toNatClampNeg o))), (msi, .inl (cI, 8, .inl (upd (fun _ => 0) s_.toNatClampNeg n))), (mce, .inl (cJ, 1280, .inr (.inl (fun _ => 0))))] H := hP
              replace hD : va_D _ [(m0, .inr (8, (.int 0 :: .int 20 :: .int 0 :: .int 0 :: .int 0 :: .int 60 :: .int 0 :: .int 3 :: .int 1 :: .int (-1) :: .ref mrf :: .ref mki :: .ref mpa :: .ref mta :: .ref mla :: .ref msl :: .ref mco :: .ref mhe :: .ref mso :: .ref msi :: .ref msh :: .ref mce :: .ref mca :: .ref mwo :: .ref mnu :: .ref mte :: .int 0 :: .int 0 :: .int 0 :: .int 0 :: .int 0 :: .ref mwa :: .ref mke :: .ref mma :: .ref mth :: .ref mtr :: .int 0 :: .int 0 :: []))), (mrf, .inl (cI, 8, .inl (fun _ => 0))), (mhe, .inl (cI, 8, .inl (upd (fun _ => 0) s_.toNatClampNeg 1))), (mso, .inl (cI, 8, .inl (upd (fun _ => 0) s_.toNatClampNeg o))), (msi, .inl (cI, 8, .inl (upd (fun _ => 0) s_.toNatClampNeg n))), (mce, .inl (cJ, 1280, .inr (.inl (fun _ => 0))))] := hD
              refine lv_iconst (v := 0) hx hb dX8_row_76 (by decide) ?_
              refine lv_istore (lv' := [(4, .int 0), (0, .ref m0), (1, .int s_), (2, .int o), (3, .int n)]) hx hb dX8_row_77 hl (by decide) rfl (fun ls hl => ?_)
              obtain ⟨i_79, hi_79⟩ : ∃ i : Int32, i = 0 := ⟨_, rfl⟩
              replace hl : lv_has ls 5 [(4, .int i_79), (0, .ref m0), (1, .int s_), (2, .int o), (3, .int n)] := by rw [hi_79]; exact lv_sub hl [0, 1, 2, 3, 4] rfl
              have h1i_79 : i_79.toInt = 0 := by rw [hi_79]; decide
              obtain ⟨nfu, hni_79⟩ : ∃ nq9 : Nat, i_79.toInt + (nq9 : Int) = 160 := ⟨((160 : Int) - 0).toNat, by omega⟩
              have hloi_79 : 0 ≤ i_79.toInt := by omega
              clear h1i_79 hi_79
              skip
              revert hni_79
              revert hloi_79
              revert hl
              revert hS
              revert hD
              revert hP
              revert ls
              revert locs
              revert H
              revert i_79
              induction nfu with
              | zero =>
                intro i_79 H locs ls hP hD hS hl hloi_79 hni_79
                have hzi_79 : i_79.toInt = 160 := by omega
                refine lv_iload hx hb dX8_row_79 (lv_at hl 0 rfl) ?_
                refine lv_sipush (v := 160) hx hb dX8_row_81 (by decide) ?_
                refine lv_icmp_ge (tgt := 107) hx hb dX8_row_84 (by decide) (fun c_20 => ?_) (fun c_20 => ?_)
                · have fc_20 : 160 ≤ i_79.toInt := zf_le c_20 (by decide) rfl
                  refine lv_iconst (v := 1) hx hb dX8_row_107 (by decide) ?_
                  exact W.iret (v := 1) hx hb hr (fun t ht hW => ⟨⟨1, (), rfl, Or.inr (Or.inr (Or.inr (Or.inl (⟨rfl, (by first | omega | decide), (by first | omega | decide), (by first | omega | decide), (by first | omega | decide), (by first | omega | decide), (by first | omega | decide)⟩)))), zP_nil, zD_nil⟩, hS.F ht⟩) hS.2.2 dX8_row_108
                · exfalso; have fc_20 : i_79.toInt < 160 := zf_nle c_20 (by decide) rfl; omega
              | succ nfu ih =>
                intro i_79 H locs ls hP hD hS hl hloi_79 hni_79
                have hzi_79 : i_79.toInt < 160 := by omega
                refine lv_iload hx hb dX8_row_79 (lv_at hl 0 rfl) ?_
                refine lv_sipush (v := 160) hx hb dX8_row_81 (by decide) ?_
                refine lv_icmp_ge (tgt := 107) hx hb dX8_row_84 (by decide) (fun c_21 => ?_) (fun c_21 => ?_)
                · exfalso; have fc_21 : 160 ≤ i_79.toInt := zf_le c_21 (by decide) rfl; omega
                · have fc_21 : i_79.toInt < 160 := zf_nle c_21 (by decide) rfl
                  refine lv_aload_n hx hb dX8_row_87 rfl (lv_at hl 1 rfl) ?_
                  refine va_get (D := D) (ci := 8) (v := .ref mce) (C := RX8) (T := TX8) (N := 38) hx hb hts hi_X8_row_8 hown hK hP 0 rfl rfl 21 (by decide) (hts (.fieldLink RX8 59 "TheLiningsInItModel" "cells" "[J") (List.mem_of_getElem? (i := 4) rfl)) (fun _ h9 => h9) rfl dX8_row_88 ?_
                  refine lv_sipush (v := 160) hx hb dX8_row_91 (by decide) ?_
                  refine lv_iload_n hx hb dX8_row_94 rfl (lv_at hl 2 rfl) ?_
                  refine lv_imul hx hb dX8_row_95 ?_
                  refine lv_topi (fun x_22 ex_22 => ?_)
                  have qx_22 : x_22.toInt = 160 * s_.toInt := by rw [ex_22]; exact zf_mul (by decide) rfl (by omega) (by omega)
                  refine lv_iload hx hb dX8_row_96 (lv_at hl 0 rfl) ?_
                  refine lv_iadd hx hb dX8_row_98 ?_
                  refine lv_topi (fun x_23 ex_23 => ?_)
                  have qx_23 : x_23.toInt = x_22.toInt + i_79.toInt := by rw [ex_23]; exact zf_add rfl rfl (by omega) (by omega)
                  refine lv_lconst (v := 0) hx hb dX8_row_99 (by decide) ?_
                  refine va_last hx hb hK hP hD hS 5 1 rfl rfl (zf_in (by omega) (by omega)) dX8_row_100 (fun H locs hP hD hS => ?_)
                  rw [zupdL_k] at hP hD
                  replace hP : va_P D vwCl [(m0, .inr (8, (.int 0 :: .int 20 :: .int 0 :: .int 0 :: .int 0 :: .int 60 :: .int 0 :: .int 3 :: .int 1 :: .int (-1) :: .ref mrf :: .ref mki :: .ref mpa :: .ref mta :: .ref mla :: .ref msl :: .ref mco :: .ref mhe :: .ref mso :: .ref msi :: .ref msh :: .ref mce :: .ref mca :: .ref mwo :: .ref mnu :: .ref mte :: .int 0 :: .int 0 :: .int 0 :: .int 0 :: .int 0 :: .ref mwa :: .ref mke :: .ref mma :: .ref mth :: .ref mtr :: .int 0 :: .int 0 :: []))), (mrf, .inl (cI, 8, .inl (fun _ => 0))), (mhe, .inl (cI, 8, .inl (upd (fun _ => 0) s_.toNatClampNeg 1))), (mso, .inl (cI, 8, .inl (upd (fun _ => 0) s_.toNatClampNeg o))), (msi, .inl (cI, 8, .inl (upd (fun _ => 0) s_.toNatClampNeg n))), (mce, .inl (cJ, 1280, .inr (.inl (fun _ => 0))))] H := hP
                  replace hD : va_D _ [(m0, .inr (8, (.int 0 :: .int 20 :: .int 0 :: .int 0 :: .int 0 :: .int 60 :: .int 0 :: .int 3 :: .int 1 :: .int (-1) :: .ref mrf :: .ref mki :: .ref mpa :: .ref mta :: .ref mla :: .ref msl :: .ref mco :: .ref mhe :: .ref mso :: .ref msi :: .ref msh :: .ref mce :: .ref mca :: .ref mwo :: .ref mnu :: .ref mte :: .int 0 :: .int 0 :: .int 0 :: .int 0 :: .int 0 :: .ref mwa :: .ref mke :: .ref mma :: .ref mth :: .ref mtr :: .int 0 :: .int 0 :: []))), (mrf, .inl (cI, 8, .inl (fun _ => 0))), (mhe, .inl (cI, 8, .inl (upd (fun _ => 0) s_.toNatClampNeg 1))), (mso, .inl (cI, 8, .inl (upd (fun _ => 0) s_.toNatClampNeg o))), (msi, .inl (cI, 8, .inl (upd (fun _ => 0) s_.toNatClampNeg n))), (mce, .inl (cJ, 1280, .inr (.inl (fun _ => 0))))] := hD
                  obtain ⟨x_24, ex_24⟩ : ∃ y : Int32, y = i_79 + 1 := ⟨_, rfl⟩
                  have qx_24 : x_24.toInt = i_79.toInt + 1 := by rw [ex_24]; exact zf_add rfl (by decide) (by omega) (by omega)
                  refine lv_iinc (v := x_24) (lv' := [(4, .int x_24), (0, .ref m0), (1, .int s_), (2, .int o), (3, .int n)]) hx hb dX8_row_101 hl (k := 0) rfl ex_24.symm (by decide) rfl (fun ls hl => ?_)
                  refine lv_goto (tgt := 79) hx hb dX8_row_104 (by decide) ?_
                  exact ih x_24 _ _ _ (hP.sub [0, 1, 2, 3, 4, 5] rfl) (hD.sub [0, 1, 2, 3, 4, 5] (by decide) rfl) hS (lv_sub hl [0, 1, 2, 3, 4] rfl) (by omega) (by omega)
            · have fc_19 : 160 < n.toInt := zf_nle c_19 rfl (by decide)
              refine lv_aload_n hx hb dX8_row_48 rfl (lv_at hl 0 rfl) ?_
              refine lv_bipush (v := (-7)) hx hb dX8_row_49 (by decide) ?_
              skip
              refine zw_V (As := [.int (-7)]) (rest := []) (wr := []) ⟨hx, hb, hml, hown, hts⟩ (c_M_no_7 l D cI cJ cZ cP cS m0 mrf mki mpa mta mla msl mco mhe mso msi msh mce mca mwo mnu mte mwa mke mma mth mtr  H.size) (cwV 1 hts gX8_row_X8_no rfl rfl rfl (by decide +kernel) ⟨Nat.le_of_ble_eq_true rfl, Nat.le_of_ble_eq_true rfl⟩) hK hN (hZ.kept hS) hP hD hS hA [0, 1] [] rfl rfl (by decide) (by decide) (by decide) (va_recv hK hP (ci := 8) (q0 := 0) rfl rfl) rfl hl.1 rfl (Nat.le_of_ble_eq_true rfl) dX8_row_51 ⟨Nat.le_of_ble_eq_true rfl, Nat.le_of_ble_eq_true rfl⟩ (fun r_25 u_26 H locs hr_25 hP hD hS => ?_)
              obtain rfl := hr_25
              exact W.iret (v := (-7)) hx hb hr (fun t ht hW => ⟨⟨(-7), (), rfl, Or.inr (Or.inr (Or.inr (Or.inr (Or.inl (⟨rfl, (by first | omega | decide), (by first | omega | decide), (by first | omega | decide), (by first | omega | decide), (by first | omega | decide), (by first | omega | decide)⟩))))), zP_nil, zD_nil⟩, hS.F ht⟩) hS.2.2 dX8_row_54
          · have fc_18 : 3 < o.toInt := zf_nle c_18 rfl (by decide)
            refine lv_aload_n hx hb dX8_row_34 rfl (lv_at hl 0 rfl) ?_
            refine lv_bipush (v := (-6)) hx hb dX8_row_35 (by decide) ?_
            skip
            refine zw_V (As := [.int (-6)]) (rest := []) (wr := []) ⟨hx, hb, hml, hown, hts⟩ (c_M_no_6 l D cI cJ cZ cP cS m0 mrf mki mpa mta mla msl mco mhe mso msi msh mce mca mwo mnu mte mwa mke mma mth mtr  H.size) (cwV 1 hts gX8_row_X8_no rfl rfl rfl (by decide +kernel) ⟨Nat.le_of_ble_eq_true rfl, Nat.le_of_ble_eq_true rfl⟩) hK hN (hZ.kept hS) hP hD hS hA [0, 1] [] rfl rfl (by decide) (by decide) (by decide) (va_recv hK hP (ci := 8) (q0 := 0) rfl rfl) rfl hl.1 rfl (Nat.le_of_ble_eq_true rfl) dX8_row_37 ⟨Nat.le_of_ble_eq_true rfl, Nat.le_of_ble_eq_true rfl⟩ (fun r_27 u_28 H locs hr_27 hP hD hS => ?_)
            obtain rfl := hr_27
            exact W.iret (v := (-6)) hx hb hr (fun t ht hW => ⟨⟨(-6), (), rfl, Or.inr (Or.inr (Or.inr (Or.inr (Or.inr (Or.inl (⟨rfl, (by first | omega | decide), (by first | omega | decide), (by first | omega | decide), (by first | omega | decide), (by first | omega | decide)⟩)))))), zP_nil, zD_nil⟩, hS.F ht⟩) hS.2.2 dX8_row_40
      · have fc_14 : n.toInt < 0 := zf_nle c_14 (by decide) rfl
        refine lv_aload_n hx hb dX8_row_18 rfl (lv_at hl 0 rfl) ?_
        refine lv_bipush (v := (-4)) hx hb dX8_row_19 (by decide) ?_
        skip
        refine zw_V (As := [.int (-4)]) (rest := []) (wr := []) ⟨hx, hb, hml, hown, hts⟩ (c_M_no_4 l D cI cJ cZ cP cS m0 mrf mki mpa mta mla msl mco mhe mso msi msh mce mca mwo mnu mte mwa mke mma mth mtr  H.size) (cwV 1 hts gX8_row_X8_no rfl rfl rfl (by decide +kernel) ⟨Nat.le_of_ble_eq_true rfl, Nat.le_of_ble_eq_true rfl⟩) hK hN (hZ.kept hS) hP hD hS hA [0, 1] [] rfl rfl (by decide) (by decide) (by decide) (va_recv hK hP (ci := 8) (q0 := 0) rfl rfl) rfl hl.1 rfl (Nat.le_of_ble_eq_true rfl) dX8_row_21 ⟨Nat.le_of_ble_eq_true rfl, Nat.le_of_ble_eq_true rfl⟩ (fun r_29 u_30 H locs hr_29 hP hD hS => ?_)
        obtain rfl := hr_29
        exact W.iret (v := (-4)) hx hb hr (fun t ht hW => ⟨⟨(-4), (), rfl, Or.inr (Or.inr (Or.inr (Or.inr (Or.inr (Or.inr (⟨rfl, (by first | omega | decide), (by first | omega | decide), (by first | omega | decide)⟩)))))), zP_nil, zD_nil⟩, hS.F ht⟩) hS.2.2 dX8_row_24
    · exact absurd c_13 (by decide)
theorem hi_X8_set_8 : ∀ w ∈ u_ws RX8 TX8 38, w ∈ wsX8_set := by decide +kernel
set_option maxHeartbeats 4000000 in
set_option maxRecDepth 100000 in
theorem c_M_set (l : Launch) (D : va_G) (cI cJ cZ cP cS : ClassId) (m0 mrf mki mpa mta mla msl mco mhe mso msi msh mce mca mwo mnu mte mwa mke mma mth mtr : Nat) (s_ i : Int32) (v : Int64)  (sz : Nat) : Met l yX8_set wsX8_set ({ frames := 1, cells := 0, slots := 0, locals := 21 }) (va_Pc [.ref m0, .int s_, .int i, .long v] (zW D (zKT cI cJ cZ cP cS) [(m0, .inr (8, (.int 0 :: .int 20 :: .int 0 :: .int 0 :: .int 0 :: .int 60 :: .int 0 :: .int 3 :: .int 1 :: .int (-1) :: .ref mrf :: .ref mki :: .ref mpa :: .ref mta :: .ref mla :: .ref msl :: .ref mco :: .ref mhe :: .ref mso :: .ref msi :: .ref msh :: .ref mce :: .ref mca :: .ref mwo :: .ref mnu :: .ref mte :: .int 0 :: .int 0 :: .int 0 :: .int 0 :: .int 0 :: .ref mwa :: .ref mke :: .ref mma :: .ref mth :: .ref mtr :: .int 0 :: .int 0 :: []))), (mrf, .inl (cI, 8, .inl (fun _ => 0))), (mhe, .inl (cI, 8, .inl (fun _ => 0)))] sz)) (va_Qi (fun (r : Int32) (_ : Unit) => (r = (-1) ∧ s_.toInt < 0) ∨ (r = (-1) ∧ 0 ≤ s_.toInt ∧ 8 ≤ s_.toInt) ∨ (r = (-3) ∧ 0 ≤ s_.toInt ∧ s_.toInt < 8)) (zB D [(m0, .inr (8, (.int 0 :: .int 20 :: .int 0 :: .int 0 :: .int 0 :: .int 60 :: .int 0 :: .int 3 :: .int 1 :: .int (-1) :: .ref mrf :: .ref mki :: .ref mpa :: .ref mta :: .ref mla :: .ref msl :: .ref mco :: .ref mhe :: .ref mso :: .ref msi :: .ref msh :: .ref mce :: .ref mca :: .ref mwo :: .ref mnu :: .ref mte :: .int 0 :: .int 0 :: .int 0 :: .int 0 :: .int 0 :: .ref mwa :: .ref mke :: .ref mma :: .ref mth :: .ref mtr :: .int 0 :: .int 0 :: []))), (mrf, .inl (cI, 8, .inl (fun _ => 0))), (mhe, .inl (cI, 8, .inl (fun _ => 0)))] sz (fun (_ : Unit) => ([] : va_W))) (va_A [(m0, .inr (8, (.int 0 :: .int 20 :: .int 0 :: .int 0 :: .int 0 :: .int 60 :: .int 0 :: .int 3 :: .int 1 :: .int (-1) :: .ref mrf :: .ref mki :: .ref mpa :: .ref mta :: .ref mla :: .ref msl :: .ref mco :: .ref mhe :: .ref mso :: .ref msi :: .ref msh :: .ref mce :: .ref mca :: .ref mwo :: .ref mnu :: .ref mte :: .int 0 :: .int 0 :: .int 0 :: .int 0 :: .int 0 :: .ref mwa :: .ref mke :: .ref mma :: .ref mth :: .ref mtr :: .int 0 :: .int 0 :: []))), (mrf, .inl (cI, 8, .inl (fun _ => 0))), (mhe, .inl (cI, 8, .inl (fun _ => 0)))] sz)) 0 0 (va_A [(m0, .inr (8, (.int 0 :: .int 20 :: .int 0 :: .int 0 :: .int 0 :: .int 60 :: .int 0 :: .int 3 :: .int 1 :: .int (-1) :: .ref mrf :: .ref mki :: .ref mpa :: .ref mta :: .ref mla :: .ref msl :: .ref mco :: .ref mhe :: .ref mso :: .ref msi :: .ref msh :: .ref mce :: .ref mca :: .ref mwo :: .ref mnu :: .ref mte :: .int 0 :: .int 0 :: .int 0 :: .int 0 :: .int 0 :: .ref mwa :: .ref mke :: .ref mma :: .ref mth :: .ref mtr :: .int 0 :: .int 0 :: []))), (mrf, .inl (cI, 8, .inl (fun _ => 0))), (mhe, .inl (cI, 8, .inl (fun _ => 0)))] sz) := by
  refine Met.ofW (cc := cX8_set) (maxL := 5) (ret := (some .int)) (by decide) rfl ?_
  intro p e s m args below meth c s₁ B hml hv
  obtain ⟨rfl, hsz, hP, hK, hD0, hN, hZ⟩ := hv
  have hx := B.exec
  have hb := B.bytes
  have hr := B.returns
  have hts := atoms_spec (ws := wsX8_set) B.pre
  have hown : s.vm.findClass RX8 = some m.cls := findClass_of_methodNamed B.named
  have hlocks := B.notSynchronized
  subst hsz
  have hD := hD0.self (sz := s.heap.size)
  have hA : ∀ q : Nat, s.heap.size ≤ q → va_A [(m0, .inr (8, (.int 0 :: .int 20 :: .int 0 :: .int 0 :: .int 0 :: .int 60 :: .int 0 :: .int 3 :: .int 1 :: .int (-1) :: .ref mrf :: .ref mki :: .ref mpa :: .ref mta :: .ref mla :: .ref msl :: .ref mco :: .ref mhe :: .ref mso :: .ref msi :: .ref msh :: .ref mce :: .ref mca :: .ref mwo :: .ref mnu :: .ref mte :: .int 0 :: .int 0 :: .int 0 :: .int 0 :: .int 0 :: .ref mwa :: .ref mke :: .ref mma :: .ref mth :: .ref mtr :: .int 0 :: .int 0 :: []))), (mrf, .inl (cI, 8, .inl (fun _ => 0))), (mhe, .inl (cI, 8, .inl (fun _ => 0)))] s.heap.size q := fun q h => Or.inr h
  have hS : va_S (va_A [(m0, .inr (8, (.int 0 :: .int 20 :: .int 0 :: .int 0 :: .int 0 :: .int 60 :: .int 0 :: .int 3 :: .int 1 :: .int (-1) :: .ref mrf :: .ref mki :: .ref mpa :: .ref mta :: .ref mla :: .ref msl :: .ref mco :: .ref mhe :: .ref mso :: .ref msi :: .ref msh :: .ref mce :: .ref mca :: .ref mwo :: .ref mnu :: .ref mte :: .int 0 :: .int 0 :: .int 0 :: .int 0 :: .int 0 :: .ref mwa :: .ref mke :: .ref mma :: .ref mth :: .ref mtr :: .int 0 :: .int 0 :: []))), (mrf, .inl (cI, 8, .inl (fun _ => 0))), (mhe, .inl (cI, 8, .inl (fun _ => 0)))] s.heap.size) s.heap s.heap [] := va_S.rf
  replace hP : va_P D vwCl _ s.heap := hP
  have hl := lv_entry ([.ref m0, .int s_, .int i, .long v]) (n := 5) (Nat.le_of_ble_eq_true rfl)
  rw [lg_entry_eq]
  generalize (lg_sl ([.ref m0, .int s_, .int i, .long v]) ++ List.replicate (5 - (lg_sl ([.ref m0, .int s_, .int i, .long v])).length) Slot.unset).toArray = ls at hl ⊢
  replace hl : lv_has ls 5 [(0, .ref m0), (1, .int s_), (2, .int i), (3, .long v)] := hl
  refine zw_start (fun H locs hH hL => ?_)
  replace hP : va_P D vwCl [(m0, .inr (8, (.int 0 :: .int 20 :: .int 0 :: .int 0 :: .int 0 :: .int 60 :: .int 0 :: .int 3 :: .int 1 :: .int (-1) :: .ref mrf :: .ref mki :: .ref mpa :: .ref mta :: .ref mla :: .ref msl :: .ref mco :: .ref mhe :: .ref mso :: .ref msi :: .ref msh :: .ref mce :: .ref mca :: .ref mwo :: .ref mnu :: .ref mte :: .int 0 :: .int 0 :: .int 0 :: .int 0 :: .int 0 :: .ref mwa :: .ref mke :: .ref mma :: .ref mth :: .ref mtr :: .int 0 :: .int 0 :: []))), (mrf, .inl (cI, 8, .inl (fun _ => 0))), (mhe, .inl (cI, 8, .inl (fun _ => 0)))] H := by rw [hH]; exact hP
  replace hS : va_S (va_A [(m0, .inr (8, (.int 0 :: .int 20 :: .int 0 :: .int 0 :: .int 0 :: .int 60 :: .int 0 :: .int 3 :: .int 1 :: .int (-1) :: .ref mrf :: .ref mki :: .ref mpa :: .ref mta :: .ref mla :: .ref msl :: .ref mco :: .ref mhe :: .ref mso :: .ref msi :: .ref msh :: .ref mce :: .ref mca :: .ref mwo :: .ref mnu :: .ref mte :: .int 0 :: .int 0 :: .int 0 :: .int 0 :: .int 0 :: .ref mwa :: .ref mke :: .ref mma :: .ref mth :: .ref mtr :: .int 0 :: .int 0 :: []))), (mrf, .inl (cI, 8, .inl (fun _ => 0))), (mhe, .inl (cI, 8, .inl (fun _ => 0)))] s.heap.size) s.heap H locs := by rw [hH, hL]; exact hS
  clear hH hL
  refine lv_aload_n hx hb dX8_set_0 rfl (lv_at hl 0 rfl) ?_
  refine lv_iload_n hx hb dX8_set_1 rfl (lv_at hl 1 rfl) ?_
  refine zc_V (As := [.int s_]) (rest := []) ⟨hx, hb, hml, hown, hts⟩ (c_M_isShelf l D cI cJ cZ cP cS m0 mrf mki mpa mta mla msl mco mhe mso msi msh mce mca mwo mnu mte mwa mke mma mth mtr (s_) ) (cwV 1 hts gX8_set_X8_isShelf rfl rfl rfl (by decide +kernel) ⟨Nat.le_of_ble_eq_true rfl, Nat.le_of_ble_eq_true rfl⟩) hK hN (hZ.kept hS) hP [0] rfl (va_recv hK hP (ci := 8) (q0 := 0) rfl rfl) rfl hl.1 rfl (Nat.le_of_ble_eq_true rfl) dX8_set_2 ⟨Nat.le_of_ble_eq_true rfl, Nat.le_of_ble_eq_true rfl⟩ (fun r_1 hr_1 => ?_)
  rcases hr_1 with ⟨rfl, g_2⟩ | ⟨rfl, g_3, g_4⟩ | ⟨rfl, g_5, g_6⟩
  · refine lv_if_ne (tgt := 14) hx hb dX8_set_5 (by decide) (fun c_7 => ?_) (fun c_7 => ?_)
    · exact absurd c_7 (by decide)
    · refine lv_aload_n hx hb dX8_set_8 rfl (lv_at hl 0 rfl) ?_
      refine lv_iconst (v := (-1)) hx hb dX8_set_9 (by decide) ?_
      skip
      refine zw_V (As := [.int (-1)]) (rest := []) (wr := []) ⟨hx, hb, hml, hown, hts⟩ (c_M_no_1 l D cI cJ cZ cP cS m0 mrf mki mpa mta mla msl mco mhe mso msi msh mce mca mwo mnu mte mwa mke mma mth mtr  H.size) (cwV 1 hts gX8_set_X8_no rfl rfl rfl (by decide +kernel) ⟨Nat.le_of_ble_eq_true rfl, Nat.le_of_ble_eq_true rfl⟩) hK hN (hZ.kept hS) hP hD hS hA [0, 1] [] rfl rfl (by decide) (by decide) (by decide) (va_recv hK hP (ci := 8) (q0 := 0) rfl rfl) rfl hl.1 rfl (Nat.le_of_ble_eq_true rfl) dX8_set_10 ⟨Nat.le_of_ble_eq_true rfl, Nat.le_of_ble_eq_true rfl⟩ (fun r_8 u_9 H locs hr_8 hP hD hS => ?_)
      obtain rfl := hr_8
      exact W.iret (v := (-1)) hx hb hr (fun t ht hW => ⟨⟨(-1), (), rfl, Or.inl (⟨rfl, (by first | omega | decide)⟩), zP_nil, zD_nil⟩, hS.F ht⟩) hS.2.2 dX8_set_13
  · refine lv_if_ne (tgt := 14) hx hb dX8_set_5 (by decide) (fun c_10 => ?_) (fun c_10 => ?_)
    · exact absurd c_10 (by decide)
    · refine lv_aload_n hx hb dX8_set_8 rfl (lv_at hl 0 rfl) ?_
      refine lv_iconst (v := (-1)) hx hb dX8_set_9 (by decide) ?_
      skip
      refine zw_V (As := [.int (-1)]) (rest := []) (wr := []) ⟨hx, hb, hml, hown, hts⟩ (c_M_no_1 l D cI cJ cZ cP cS m0 mrf mki mpa mta mla msl mco mhe mso msi msh mce mca mwo mnu mte mwa mke mma mth mtr  H.size) (cwV 1 hts gX8_set_X8_no rfl rfl rfl (by decide +kernel) ⟨Nat.le_of_ble_eq_true rfl, Nat.le_of_ble_eq_true rfl⟩) hK hN (hZ.kept hS) hP hD hS hA [0, 1] [] rfl rfl (by decide) (by decide) (by decide) (va_recv hK hP (ci := 8) (q0 := 0) rfl rfl) rfl hl.1 rfl (Nat.le_of_ble_eq_true rfl) dX8_set_10 ⟨Nat.le_of_ble_eq_true rfl, Nat.le_of_ble_eq_true rfl⟩ (fun r_11 u_12 H locs hr_11 hP hD hS => ?_)
      obtain rfl := hr_11
      exact W.iret (v := (-1)) hx hb hr (fun t ht hW => ⟨⟨(-1), (), rfl, Or.inr (Or.inl (⟨rfl, (by first | omega | decide), (by first | omega | decide)⟩)), zP_nil, zD_nil⟩, hS.F ht⟩) hS.2.2 dX8_set_13
  · refine lv_if_ne (tgt := 14) hx hb dX8_set_5 (by decide) (fun c_13 => ?_) (fun c_13 => ?_)
    · refine lv_aload_n hx hb dX8_set_14 rfl (lv_at hl 0 rfl) ?_
      refine va_get (D := D) (ci := 8) (v := .ref mhe) (C := RX8) (T := TX8) (N := 38) hx hb hts hi_X8_set_8 hown hK hP 0 rfl rfl 17 (by decide) (hts (.fieldLink RX8 47 "TheLiningsInItModel" "held" "[I") (List.mem_of_getElem? (i := 1) rfl)) (fun _ h9 => h9) rfl dX8_set_15 ?_
      refine lv_iload_n hx hb dX8_set_18 rfl (lv_at hl 1 rfl) ?_
      refine va_iald hx hb hK hP 2 0 rfl rfl (zf_in (by omega) (by omega)) dX8_set_19 ?_
      refine lv_topi (fun x_14 ex_14 => ?_)
      obtain rfl : x_14 = 0 := ex_14
      refine lv_iconst (v := 2) hx hb dX8_set_20 (by decide) ?_
      refine lv_icmp_ne (tgt := 31) hx hb dX8_set_21 (by decide) (fun c_15 => ?_) (fun c_15 => ?_)
      · refine lv_aload_n hx hb dX8_set_31 rfl (lv_at hl 0 rfl) ?_
        refine va_get (D := D) (ci := 8) (v := .ref mhe) (C := RX8) (T := TX8) (N := 38) hx hb hts hi_X8_set_8 hown hK hP 0 rfl rfl 17 (by decide) (hts (.fieldLink RX8 47 "TheLiningsInItModel" "held" "[I") (List.mem_of_getElem? (i := 1) rfl)) (fun _ h9 => h9) rfl dX8_set_32 ?_
        refine lv_iload_n hx hb dX8_set_35 rfl (lv_at hl 1 rfl) ?_
        refine va_iald hx hb hK hP 2 0 rfl rfl (zf_in (by omega) (by omega)) dX8_set_36 ?_
        refine lv_topi (fun x_16 ex_16 => ?_)
        obtain rfl : x_16 = 0 := ex_16
        refine lv_if_ne (tgt := 47) hx hb dX8_set_37 (by decide) (fun c_17 => ?_) (fun c_17 => ?_)
        · exact absurd c_17 (by decide)
        · refine lv_aload_n hx hb dX8_set_40 rfl (lv_at hl 0 rfl) ?_
          refine lv_bipush (v := (-3)) hx hb dX8_set_41 (by decide) ?_
          skip
          refine zw_V (As := [.int (-3)]) (rest := []) (wr := []) ⟨hx, hb, hml, hown, hts⟩ (c_M_no_3 l D cI cJ cZ cP cS m0 mrf mki mpa mta mla msl mco mhe mso msi msh mce mca mwo mnu mte mwa mke mma mth mtr  H.size) (cwV 1 hts gX8_set_X8_no rfl rfl rfl (by decide +kernel) ⟨Nat.le_of_ble_eq_true rfl, Nat.le_of_ble_eq_true rfl⟩) hK hN (hZ.kept hS) hP hD hS hA [0, 1] [] rfl rfl (by decide) (by decide) (by decide) (va_recv hK hP (ci := 8) (q0 := 0) rfl rfl) rfl hl.1 rfl (Nat.le_of_ble_eq_true rfl) dX8_set_43 ⟨Nat.le_of_ble_eq_true rfl, Nat.le_of_ble_eq_true rfl⟩ (fun r_18 u_19 H locs hr_18 hP hD hS => ?_)
          obtain rfl := hr_18
          exact W.iret (v := (-3)) hx hb hr (fun t ht hW => ⟨⟨(-3), (), rfl, Or.inr (Or.inr (⟨rfl, (by first | omega | decide), (by first | omega | decide)⟩)), zP_nil, zD_nil⟩, hS.F ht⟩) hS.2.2 dX8_set_46
      · exact absurd c_15 (by decide)
    · exact absurd c_13 (by decide)
theorem hi_X8_copy_8 : ∀ w ∈ u_ws RX8 TX8 38, w ∈ wsX8_copy := by decide +kernel
set_option maxHeartbeats 4000000 in
set_option maxRecDepth 100000 in
theorem c_M_copy (l : Launch) (D : va_G) (cI cJ cZ cP cS : ClassId) (m0 mrf mki mpa mta mla msl mco mhe mso msi msh mce mca mwo mnu mte mwa mke mma mth mtr : Nat) (s_ q_ i j n : Int32)  (sz : Nat) : Met l yX8_copy wsX8_copy ({ frames := 1, cells := 0, slots := 0, locals := 21 }) (va_Pc [.ref m0, .int s_, .int q_, .int i, .int j, .int n] (zW D (zKT cI cJ cZ cP cS) [(m0, .inr (8, (.int 0 :: .int 20 :: .int 0 :: .int 0 :: .int 0 :: .int 60 :: .int 0 :: .int 3 :: .int 1 :: .int (-1) :: .ref mrf :: .ref mki :: .ref mpa :: .ref mta :: .ref mla :: .ref msl :: .ref mco :: .ref mhe :: .ref mso :: .ref msi :: .ref msh :: .ref mce :: .ref mca :: .ref mwo :: .ref mnu :: .ref mte :: .int 0 :: .int 0 :: .int 0 :: .int 0 :: .int 0 :: .ref mwa :: .ref mke :: .ref mma :: .ref mth :: .ref mtr :: .int 0 :: .int 0 :: []))), (mrf, .inl (cI, 8, .inl (fun _ => 0))), (mhe, .inl (cI, 8, .inl (fun _ => 0)))] sz)) (va_Qi (fun (r : Int32) (_ : Unit) => (r = (-1) ∧ s_.toInt < 0) ∨ (r = (-1) ∧ 0 ≤ s_.toInt ∧ 8 ≤ s_.toInt) ∨ (r = (-1) ∧ 0 ≤ s_.toInt ∧ s_.toInt < 8 ∧ q_.toInt < 0) ∨ (r = (-1) ∧ 0 ≤ s_.toInt ∧ s_.toInt < 8 ∧ 0 ≤ q_.toInt ∧ 8 ≤ q_.toInt) ∨ (r = (-3) ∧ 0 ≤ s_.toInt ∧ s_.toInt < 8 ∧ 0 ≤ q_.toInt ∧ q_.toInt < 8)) (zB D [(m0, .inr (8, (.int 0 :: .int 20 :: .int 0 :: .int 0 :: .int 0 :: .int 60 :: .int 0 :: .int 3 :: .int 1 :: .int (-1) :: .ref mrf :: .ref mki :: .ref mpa :: .ref mta :: .ref mla :: .ref msl :: .ref mco :: .ref mhe :: .ref mso :: .ref msi :: .ref msh :: .ref mce :: .ref mca :: .ref mwo :: .ref mnu :: .ref mte :: .int 0 :: .int 0 :: .int 0 :: .int 0 :: .int 0 :: .ref mwa :: .ref mke :: .ref mma :: .ref mth :: .ref mtr :: .int 0 :: .int 0 :: []))), (mrf, .inl (cI, 8, .inl (fun _ => 0))), (mhe, .inl (cI, 8, .inl (fun _ => 0)))] sz (fun (_ : Unit) => ([] : va_W))) (va_A [(m0, .inr (8, (.int 0 :: .int 20 :: .int 0 :: .int 0 :: .int 0 :: .int 60 :: .int 0 :: .int 3 :: .int 1 :: .int (-1) :: .ref mrf :: .ref mki :: .ref mpa :: .ref mta :: .ref mla :: .ref msl :: .ref mco :: .ref mhe :: .ref mso :: .ref msi :: .ref msh :: .ref mce :: .ref mca :: .ref mwo :: .ref mnu :: .ref mte :: .int 0 :: .int 0 :: .int 0 :: .int 0 :: .int 0 :: .ref mwa :: .ref mke :: .ref mma :: .ref mth :: .ref mtr :: .int 0 :: .int 0 :: []))), (mrf, .inl (cI, 8, .inl (fun _ => 0))), (mhe, .inl (cI, 8, .inl (fun _ => 0)))] sz)) 0 0 (va_A [(m0, .inr (8, (.int 0 :: .int 20 :: .int 0 :: .int 0 :: .int 0 :: .int 60 :: .int 0 :: .int 3 :: .int 1 :: .int (-1) :: .ref mrf :: .ref mki :: .ref mpa :: .ref mta :: .ref mla :: .ref msl :: .ref mco :: .ref mhe :: .ref mso :: .ref msi :: .ref msh :: .ref mce :: .ref mca :: .ref mwo :: .ref mnu :: .ref mte :: .int 0 :: .int 0 :: .int 0 :: .int 0 :: .int 0 :: .ref mwa :: .ref mke :: .ref mma :: .ref mth :: .ref mtr :: .int 0 :: .int 0 :: []))), (mrf, .inl (cI, 8, .inl (fun _ => 0))), (mhe, .inl (cI, 8, .inl (fun _ => 0)))] sz) := by
  refine Met.ofW (cc := cX8_copy) (maxL := 7) (ret := (some .int)) (by decide) rfl ?_
  intro p e s m args below meth c s₁ B hml hv
  obtain ⟨rfl, hsz, hP, hK, hD0, hN, hZ⟩ := hv
  have hx := B.exec
  have hb := B.bytes
  have hr := B.returns
  have hts := atoms_spec (ws := wsX8_copy) B.pre
  have hown : s.vm.findClass RX8 = some m.cls := findClass_of_methodNamed B.named
  have hlocks := B.notSynchronized
  subst hsz
  have hD := hD0.self (sz := s.heap.size)
  have hA : ∀ q : Nat, s.heap.size ≤ q → va_A [(m0, .inr (8, (.int 0 :: .int 20 :: .int 0 :: .int 0 :: .int 0 :: .int 60 :: .int 0 :: .int 3 :: .int 1 :: .int (-1) :: .ref mrf :: .ref mki :: .ref mpa :: .ref mta :: .ref mla :: .ref msl :: .ref mco :: .ref mhe :: .ref mso :: .ref msi :: .ref msh :: .ref mce :: .ref mca :: .ref mwo :: .ref mnu :: .ref mte :: .int 0 :: .int 0 :: .int 0 :: .int 0 :: .int 0 :: .ref mwa :: .ref mke :: .ref mma :: .ref mth :: .ref mtr :: .int 0 :: .int 0 :: []))), (mrf, .inl (cI, 8, .inl (fun _ => 0))), (mhe, .inl (cI, 8, .inl (fun _ => 0)))] s.heap.size q := fun q h => Or.inr h
  have hS : va_S (va_A [(m0, .inr (8, (.int 0 :: .int 20 :: .int 0 :: .int 0 :: .int 0 :: .int 60 :: .int 0 :: .int 3 :: .int 1 :: .int (-1) :: .ref mrf :: .ref mki :: .ref mpa :: .ref mta :: .ref mla :: .ref msl :: .ref mco :: .ref mhe :: .ref mso :: .ref msi :: .ref msh :: .ref mce :: .ref mca :: .ref mwo :: .ref mnu :: .ref mte :: .int 0 :: .int 0 :: .int 0 :: .int 0 :: .int 0 :: .ref mwa :: .ref mke :: .ref mma :: .ref mth :: .ref mtr :: .int 0 :: .int 0 :: []))), (mrf, .inl (cI, 8, .inl (fun _ => 0))), (mhe, .inl (cI, 8, .inl (fun _ => 0)))] s.heap.size) s.heap s.heap [] := va_S.rf
  replace hP : va_P D vwCl _ s.heap := hP
  have hl := lv_entry ([.ref m0, .int s_, .int q_, .int i, .int j, .int n]) (n := 7) (Nat.le_of_ble_eq_true rfl)
  rw [lg_entry_eq]
  generalize (lg_sl ([.ref m0, .int s_, .int q_, .int i, .int j, .int n]) ++ List.replicate (7 - (lg_sl ([.ref m0, .int s_, .int q_, .int i, .int j, .int n])).length) Slot.unset).toArray = ls at hl ⊢
  replace hl : lv_has ls 7 [(0, .ref m0), (1, .int s_), (2, .int q_), (3, .int i), (4, .int j), (5, .int n)] := hl
  refine zw_start (fun H locs hH hL => ?_)
  replace hP : va_P D vwCl [(m0, .inr (8, (.int 0 :: .int 20 :: .int 0 :: .int 0 :: .int 0 :: .int 60 :: .int 0 :: .int 3 :: .int 1 :: .int (-1) :: .ref mrf :: .ref mki :: .ref mpa :: .ref mta :: .ref mla :: .ref msl :: .ref mco :: .ref mhe :: .ref mso :: .ref msi :: .ref msh :: .ref mce :: .ref mca :: .ref mwo :: .ref mnu :: .ref mte :: .int 0 :: .int 0 :: .int 0 :: .int 0 :: .int 0 :: .ref mwa :: .ref mke :: .ref mma :: .ref mth :: .ref mtr :: .int 0 :: .int 0 :: []))), (mrf, .inl (cI, 8, .inl (fun _ => 0))), (mhe, .inl (cI, 8, .inl (fun _ => 0)))] H := by rw [hH]; exact hP
  replace hS : va_S (va_A [(m0, .inr (8, (.int 0 :: .int 20 :: .int 0 :: .int 0 :: .int 0 :: .int 60 :: .int 0 :: .int 3 :: .int 1 :: .int (-1) :: .ref mrf :: .ref mki :: .ref mpa :: .ref mta :: .ref mla :: .ref msl :: .ref mco :: .ref mhe :: .ref mso :: .ref msi :: .ref msh :: .ref mce :: .ref mca :: .ref mwo :: .ref mnu :: .ref mte :: .int 0 :: .int 0 :: .int 0 :: .int 0 :: .int 0 :: .ref mwa :: .ref mke :: .ref mma :: .ref mth :: .ref mtr :: .int 0 :: .int 0 :: []))), (mrf, .inl (cI, 8, .inl (fun _ => 0))), (mhe, .inl (cI, 8, .inl (fun _ => 0)))] s.heap.size) s.heap H locs := by rw [hH, hL]; exact hS
  clear hH hL
  refine lv_aload_n hx hb dX8_copy_0 rfl (lv_at hl 0 rfl) ?_
  refine lv_iload_n hx hb dX8_copy_1 rfl (lv_at hl 1 rfl) ?_
  refine zc_V (As := [.int s_]) (rest := []) ⟨hx, hb, hml, hown, hts⟩ (c_M_isShelf l D cI cJ cZ cP cS m0 mrf mki mpa mta mla msl mco mhe mso msi msh mce mca mwo mnu mte mwa mke mma mth mtr (s_) ) (cwV 1 hts gX8_copy_X8_isShelf rfl rfl rfl (by decide +kernel) ⟨Nat.le_of_ble_eq_true rfl, Nat.le_of_ble_eq_true rfl⟩) hK hN (hZ.kept hS) hP [0] rfl (va_recv hK hP (ci := 8) (q0 := 0) rfl rfl) rfl hl.1 rfl (Nat.le_of_ble_eq_true rfl) dX8_copy_2 ⟨Nat.le_of_ble_eq_true rfl, Nat.le_of_ble_eq_true rfl⟩ (fun r_1 hr_1 => ?_)
  rcases hr_1 with ⟨rfl, g_2⟩ | ⟨rfl, g_3, g_4⟩ | ⟨rfl, g_5, g_6⟩
  · refine lv_if_eq (tgt := 16) hx hb dX8_copy_5 (by decide) (fun c_7 => ?_) (fun c_7 => ?_)
    · refine lv_aload_n hx hb dX8_copy_16 rfl (lv_at hl 0 rfl) ?_
      refine lv_iconst (v := (-1)) hx hb dX8_copy_17 (by decide) ?_
      skip
      refine zw_V (As := [.int (-1)]) (rest := []) (wr := []) ⟨hx, hb, hml, hown, hts⟩ (c_M_no_1 l D cI cJ cZ cP cS m0 mrf mki mpa mta mla msl mco mhe mso msi msh mce mca mwo mnu mte mwa mke mma mth mtr  H.size) (cwV 1 hts gX8_copy_X8_no rfl rfl rfl (by decide +kernel) ⟨Nat.le_of_ble_eq_true rfl, Nat.le_of_ble_eq_true rfl⟩) hK hN (hZ.kept hS) hP hD hS hA [0, 1] [] rfl rfl (by decide) (by decide) (by decide) (va_recv hK hP (ci := 8) (q0 := 0) rfl rfl) rfl hl.1 rfl (Nat.le_of_ble_eq_true rfl) dX8_copy_18 ⟨Nat.le_of_ble_eq_true rfl, Nat.le_of_ble_eq_true rfl⟩ (fun r_8 u_9 H locs hr_8 hP hD hS => ?_)
      obtain rfl := hr_8
      exact W.iret (v := (-1)) hx hb hr (fun t ht hW => ⟨⟨(-1), (), rfl, Or.inl (⟨rfl, (by first | omega | decide)⟩), zP_nil, zD_nil⟩, hS.F ht⟩) hS.2.2 dX8_copy_21
    · exact absurd c_7 (by decide)
  · refine lv_if_eq (tgt := 16) hx hb dX8_copy_5 (by decide) (fun c_10 => ?_) (fun c_10 => ?_)
    · refine lv_aload_n hx hb dX8_copy_16 rfl (lv_at hl 0 rfl) ?_
      refine lv_iconst (v := (-1)) hx hb dX8_copy_17 (by decide) ?_
      skip
      refine zw_V (As := [.int (-1)]) (rest := []) (wr := []) ⟨hx, hb, hml, hown, hts⟩ (c_M_no_1 l D cI cJ cZ cP cS m0 mrf mki mpa mta mla msl mco mhe mso msi msh mce mca mwo mnu mte mwa mke mma mth mtr  H.size) (cwV 1 hts gX8_copy_X8_no rfl rfl rfl (by decide +kernel) ⟨Nat.le_of_ble_eq_true rfl, Nat.le_of_ble_eq_true rfl⟩) hK hN (hZ.kept hS) hP hD hS hA [0, 1] [] rfl rfl (by decide) (by decide) (by decide) (va_recv hK hP (ci := 8) (q0 := 0) rfl rfl) rfl hl.1 rfl (Nat.le_of_ble_eq_true rfl) dX8_copy_18 ⟨Nat.le_of_ble_eq_true rfl, Nat.le_of_ble_eq_true rfl⟩ (fun r_11 u_12 H locs hr_11 hP hD hS => ?_)
      obtain rfl := hr_11
      exact W.iret (v := (-1)) hx hb hr (fun t ht hW => ⟨⟨(-1), (), rfl, Or.inr (Or.inl (⟨rfl, (by first | omega | decide), (by first | omega | decide)⟩)), zP_nil, zD_nil⟩, hS.F ht⟩) hS.2.2 dX8_copy_21
    · exact absurd c_10 (by decide)
  · refine lv_if_eq (tgt := 16) hx hb dX8_copy_5 (by decide) (fun c_13 => ?_) (fun c_13 => ?_)
    · exact absurd c_13 (by decide)
    · refine lv_aload_n hx hb dX8_copy_8 rfl (lv_at hl 0 rfl) ?_
      refine lv_iload_n hx hb dX8_copy_9 rfl (lv_at hl 2 rfl) ?_
      refine zc_V (As := [.int q_]) (rest := []) ⟨hx, hb, hml, hown, hts⟩ (c_M_isShelf l D cI cJ cZ cP cS m0 mrf mki mpa mta mla msl mco mhe mso msi msh mce mca mwo mnu mte mwa mke mma mth mtr (q_) ) (cwV 1 hts gX8_copy_X8_isShelf rfl rfl rfl (by decide +kernel) ⟨Nat.le_of_ble_eq_true rfl, Nat.le_of_ble_eq_true rfl⟩) hK hN (hZ.kept hS) hP [0] rfl (va_recv hK hP (ci := 8) (q0 := 0) rfl rfl) rfl hl.1 rfl (Nat.le_of_ble_eq_true rfl) dX8_copy_10 ⟨Nat.le_of_ble_eq_true rfl, Nat.le_of_ble_eq_true rfl⟩ (fun r_14 hr_14 => ?_)
      rcases hr_14 with ⟨rfl, g_15⟩ | ⟨rfl, g_16, g_17⟩ | ⟨rfl, g_18, g_19⟩
      · refine lv_if_ne (tgt := 22) hx hb dX8_copy_13 (by decide) (fun c_20 => ?_) (fun c_20 => ?_)
        · exact absurd c_20 (by decide)
        · refine lv_aload_n hx hb dX8_copy_16 rfl (lv_at hl 0 rfl) ?_
          refine lv_iconst (v := (-1)) hx hb dX8_copy_17 (by decide) ?_
          skip
          refine zw_V (As := [.int (-1)]) (rest := []) (wr := []) ⟨hx, hb, hml, hown, hts⟩ (c_M_no_1 l D cI cJ cZ cP cS m0 mrf mki mpa mta mla msl mco mhe mso msi msh mce mca mwo mnu mte mwa mke mma mth mtr  H.size) (cwV 1 hts gX8_copy_X8_no rfl rfl rfl (by decide +kernel) ⟨Nat.le_of_ble_eq_true rfl, Nat.le_of_ble_eq_true rfl⟩) hK hN (hZ.kept hS) hP hD hS hA [0, 1] [] rfl rfl (by decide) (by decide) (by decide) (va_recv hK hP (ci := 8) (q0 := 0) rfl rfl) rfl hl.1 rfl (Nat.le_of_ble_eq_true rfl) dX8_copy_18 ⟨Nat.le_of_ble_eq_true rfl, Nat.le_of_ble_eq_true rfl⟩ (fun r_21 u_22 H locs hr_21 hP hD hS => ?_)
          obtain rfl := hr_21
          exact W.iret (v := (-1)) hx hb hr (fun t ht hW => ⟨⟨(-1), (), rfl, Or.inr (Or.inr (Or.inl (⟨rfl, (by first | omega | decide), (by first | omega | decide), (by first | omega | decide)⟩))), zP_nil, zD_nil⟩, hS.F ht⟩) hS.2.2 dX8_copy_21
      · refine lv_if_ne (tgt := 22) hx hb dX8_copy_13 (by decide) (fun c_23 => ?_) (fun c_23 => ?_)
        · exact absurd c_23 (by decide)
        · refine lv_aload_n hx hb dX8_copy_16 rfl (lv_at hl 0 rfl) ?_
          refine lv_iconst (v := (-1)) hx hb dX8_copy_17 (by decide) ?_
          skip
          refine zw_V (As := [.int (-1)]) (rest := []) (wr := []) ⟨hx, hb, hml, hown, hts⟩ (c_M_no_1 l D cI cJ cZ cP cS m0 mrf mki mpa mta mla msl mco mhe mso msi msh mce mca mwo mnu mte mwa mke mma mth mtr  H.size) (cwV 1 hts gX8_copy_X8_no rfl rfl rfl (by decide +kernel) ⟨Nat.le_of_ble_eq_true rfl, Nat.le_of_ble_eq_true rfl⟩) hK hN (hZ.kept hS) hP hD hS hA [0, 1] [] rfl rfl (by decide) (by decide) (by decide) (va_recv hK hP (ci := 8) (q0 := 0) rfl rfl) rfl hl.1 rfl (Nat.le_of_ble_eq_true rfl) dX8_copy_18 ⟨Nat.le_of_ble_eq_true rfl, Nat.le_of_ble_eq_true rfl⟩ (fun r_24 u_25 H locs hr_24 hP hD hS => ?_)
          obtain rfl := hr_24
          exact W.iret (v := (-1)) hx hb hr (fun t ht hW => ⟨⟨(-1), (), rfl, Or.inr (Or.inr (Or.inr (Or.inl (⟨rfl, (by first | omega | decide), (by first | omega | decide), (by first | omega | decide), (by first | omega | decide)⟩)))), zP_nil, zD_nil⟩, hS.F ht⟩) hS.2.2 dX8_copy_21
      · refine lv_if_ne (tgt := 22) hx hb dX8_copy_13 (by decide) (fun c_26 => ?_) (fun c_26 => ?_)
        · refine lv_aload_n hx hb dX8_copy_22 rfl (lv_at hl 0 rfl) ?_
          refine va_get (D := D) (ci := 8) (v := .ref mhe) (C := RX8) (T := TX8) (N := 38) hx hb hts hi_X8_copy_8 hown hK hP 0 rfl rfl 17 (by decide) (hts (.fieldLink RX8 47 "TheLiningsInItModel" "held" "[I") (List.mem_of_getElem? (i := 1) rfl)) (fun _ h9 => h9) rfl dX8_copy_23 ?_
          refine lv_iload_n hx hb dX8_copy_26 rfl (lv_at hl 1 rfl) ?_
          refine va_iald hx hb hK hP 2 0 rfl rfl (zf_in (by omega) (by omega)) dX8_copy_27 ?_
          refine lv_topi (fun x_27 ex_27 => ?_)
          obtain rfl : x_27 = 0 := ex_27
          refine lv_iconst (v := 2) hx hb dX8_copy_28 (by decide) ?_
          refine lv_icmp_eq (tgt := 77) hx hb dX8_copy_29 (by decide) (fun c_28 => ?_) (fun c_28 => ?_)
          · exact absurd c_28 (by decide)
          · refine lv_aload_n hx hb dX8_copy_32 rfl (lv_at hl 0 rfl) ?_
            refine va_get (D := D) (ci := 8) (v := .ref mhe) (C := RX8) (T := TX8) (N := 38) hx hb hts hi_X8_copy_8 hown hK hP 0 rfl rfl 17 (by decide) (hts (.fieldLink RX8 47 "TheLiningsInItModel" "held" "[I") (List.mem_of_getElem? (i := 1) rfl)) (fun _ h9 => h9) rfl dX8_copy_33 ?_
            refine lv_iload_n hx hb dX8_copy_36 rfl (lv_at hl 2 rfl) ?_
            refine va_iald hx hb hK hP 2 0 rfl rfl (zf_in (by omega) (by omega)) dX8_copy_37 ?_
            refine lv_topi (fun x_29 ex_29 => ?_)
            obtain rfl : x_29 = 0 := ex_29
            refine lv_iconst (v := 2) hx hb dX8_copy_38 (by decide) ?_
            refine lv_icmp_eq (tgt := 77) hx hb dX8_copy_39 (by decide) (fun c_30 => ?_) (fun c_30 => ?_)
            · exact absurd c_30 (by decide)
            · refine lv_aload_n hx hb dX8_copy_42 rfl (lv_at hl 0 rfl) ?_
              refine va_get (D := D) (ci := 8) (v := .ref mhe) (C := RX8) (T := TX8) (N := 38) hx hb hts hi_X8_copy_8 hown hK hP 0 rfl rfl 17 (by decide) (hts (.fieldLink RX8 47 "TheLiningsInItModel" "held" "[I") (List.mem_of_getElem? (i := 1) rfl)) (fun _ h9 => h9) rfl dX8_copy_43 ?_
              refine lv_iload_n hx hb dX8_copy_46 rfl (lv_at hl 1 rfl) ?_
              refine va_iald hx hb hK hP 2 0 rfl rfl (zf_in (by omega) (by omega)) dX8_copy_47 ?_
              refine lv_topi (fun x_31 ex_31 => ?_)
              obtain rfl : x_31 = 0 := ex_31
              refine lv_iconst (v := 1) hx hb dX8_copy_48 (by decide) ?_
              refine lv_icmp_ne (tgt := 84) hx hb dX8_copy_49 (by decide) (fun c_32 => ?_) (fun c_32 => ?_)
              · refine lv_aload_n hx hb dX8_copy_84 rfl (lv_at hl 0 rfl) ?_
                refine va_get (D := D) (ci := 8) (v := .ref mhe) (C := RX8) (T := TX8) (N := 38) hx hb hts hi_X8_copy_8 hown hK hP 0 rfl rfl 17 (by decide) (hts (.fieldLink RX8 47 "TheLiningsInItModel" "held" "[I") (List.mem_of_getElem? (i := 1) rfl)) (fun _ h9 => h9) rfl dX8_copy_85 ?_
                refine lv_iload_n hx hb dX8_copy_88 rfl (lv_at hl 1 rfl) ?_
                refine va_iald hx hb hK hP 2 0 rfl rfl (zf_in (by omega) (by omega)) dX8_copy_89 ?_
                refine lv_topi (fun x_33 ex_33 => ?_)
                obtain rfl : x_33 = 0 := ex_33
                refine lv_if_eq (tgt := 102) hx hb dX8_copy_90 (by decide) (fun c_34 => ?_) (fun c_34 => ?_)
                · refine lv_aload_n hx hb dX8_copy_102 rfl (lv_at hl 0 rfl) ?_
                  refine lv_bipush (v := (-3)) hx hb dX8_copy_103 (by decide) ?_
                  skip
                  refine zw_V (As := [.int (-3)]) (rest := []) (wr := []) ⟨hx, hb, hml, hown, hts⟩ (c_M_no_3 l D cI cJ cZ cP cS m0 mrf mki mpa mta mla msl mco mhe mso msi msh mce mca mwo mnu mte mwa mke mma mth mtr  H.size) (cwV 1 hts gX8_copy_X8_no rfl rfl rfl (by decide +kernel) ⟨Nat.le_of_ble_eq_true rfl, Nat.le_of_ble_eq_true rfl⟩) hK hN (hZ.kept hS) hP hD hS hA [0, 1] [] rfl rfl (by decide) (by decide) (by decide) (va_recv hK hP (ci := 8) (q0 := 0) rfl rfl) rfl hl.1 rfl (Nat.le_of_ble_eq_true rfl) dX8_copy_105 ⟨Nat.le_of_ble_eq_true rfl, Nat.le_of_ble_eq_true rfl⟩ (fun r_35 u_36 H locs hr_35 hP hD hS => ?_)
                  obtain rfl := hr_35
                  exact W.iret (v := (-3)) hx hb hr (fun t ht hW => ⟨⟨(-3), (), rfl, Or.inr (Or.inr (Or.inr (Or.inr (⟨rfl, (by first | omega | decide), (by first | omega | decide), (by first | omega | decide), (by first | omega | decide)⟩)))), zP_nil, zD_nil⟩, hS.F ht⟩) hS.2.2 dX8_copy_108
                · exact absurd c_34 (by decide)
              · exact absurd c_32 (by decide)
        · exact absurd c_26 (by decide)
theorem hi_X8_element_8 : ∀ w ∈ u_ws RX8 TX8 38, w ∈ wsX8_element := by decide +kernel
set_option maxHeartbeats 4000000 in
set_option maxRecDepth 100000 in
theorem c_M_element (l : Launch) (D : va_G) (cI cJ cZ cP cS : ClassId) (m0 mrf mki mpa mta mla msl mco mhe mso msi msh mce mca mwo mnu mte mwa mke mma mth mtr : Nat) (s_ i : Int32)  (sz : Nat) : Met l yX8_element wsX8_element ({ frames := 1, cells := 0, slots := 0, locals := 21 }) (va_Pc [.ref m0, .int s_, .int i] (zW D (zKT cI cJ cZ cP cS) [(m0, .inr (8, (.int 0 :: .int 20 :: .int 0 :: .int 0 :: .int 0 :: .int 60 :: .int 0 :: .int 3 :: .int 1 :: .int (-1) :: .ref mrf :: .ref mki :: .ref mpa :: .ref mta :: .ref mla :: .ref msl :: .ref mco :: .ref mhe :: .ref mso :: .ref msi :: .ref msh :: .ref mce :: .ref mca :: .ref mwo :: .ref mnu :: .ref mte :: .int 0 :: .int 0 :: .int 0 :: .int 0 :: .int 0 :: .ref mwa :: .ref mke :: .ref mma :: .ref mth :: .ref mtr :: .int 0 :: .int 0 :: []))), (mhe, .inl (cI, 8, .inl (fun _ => 0)))] sz)) (va_Ql (fun (r : Int64) (_ : Unit) => (r = 0 ∧ s_.toInt < 0) ∨ (r = 0 ∧ 0 ≤ s_.toInt ∧ 8 ≤ s_.toInt) ∨ (r = 0 ∧ 0 ≤ s_.toInt ∧ s_.toInt < 8)) (zB D [(m0, .inr (8, (.int 0 :: .int 20 :: .int 0 :: .int 0 :: .int 0 :: .int 60 :: .int 0 :: .int 3 :: .int 1 :: .int (-1) :: .ref mrf :: .ref mki :: .ref mpa :: .ref mta :: .ref mla :: .ref msl :: .ref mco :: .ref mhe :: .ref mso :: .ref msi :: .ref msh :: .ref mce :: .ref mca :: .ref mwo :: .ref mnu :: .ref mte :: .int 0 :: .int 0 :: .int 0 :: .int 0 :: .int 0 :: .ref mwa :: .ref mke :: .ref mma :: .ref mth :: .ref mtr :: .int 0 :: .int 0 :: []))), (mhe, .inl (cI, 8, .inl (fun _ => 0)))] sz (fun (_ : Unit) => ([] : va_W))) (va_A [(m0, .inr (8, (.int 0 :: .int 20 :: .int 0 :: .int 0 :: .int 0 :: .int 60 :: .int 0 :: .int 3 :: .int 1 :: .int (-1) :: .ref mrf :: .ref mki :: .ref mpa :: .ref mta :: .ref mla :: .ref msl :: .ref mco :: .ref mhe :: .ref mso :: .ref msi :: .ref msh :: .ref mce :: .ref mca :: .ref mwo :: .ref mnu :: .ref mte :: .int 0 :: .int 0 :: .int 0 :: .int 0 :: .int 0 :: .ref mwa :: .ref mke :: .ref mma :: .ref mth :: .ref mtr :: .int 0 :: .int 0 :: []))), (mhe, .inl (cI, 8, .inl (fun _ => 0)))] sz)) 0 0 (va_A [(m0, .inr (8, (.int 0 :: .int 20 :: .int 0 :: .int 0 :: .int 0 :: .int 60 :: .int 0 :: .int 3 :: .int 1 :: .int (-1) :: .ref mrf :: .ref mki :: .ref mpa :: .ref mta :: .ref mla :: .ref msl :: .ref mco :: .ref mhe :: .ref mso :: .ref msi :: .ref msh :: .ref mce :: .ref mca :: .ref mwo :: .ref mnu :: .ref mte :: .int 0 :: .int 0 :: .int 0 :: .int 0 :: .int 0 :: .ref mwa :: .ref mke :: .ref mma :: .ref mth :: .ref mtr :: .int 0 :: .int 0 :: []))), (mhe, .inl (cI, 8, .inl (fun _ => 0)))] sz) := by
  refine Met.ofW (cc := cX8_element) (maxL := 3) (ret := (some .long)) (by decide) rfl ?_
  intro p e s m args below meth c s₁ B hml hv
  obtain ⟨rfl, hsz, hP, hK, hD0, hN, hZ⟩ := hv
  have hx := B.exec
  have hb := B.bytes
  have hr := B.returns
  have hts := atoms_spec (ws := wsX8_element) B.pre
  have hown : s.vm.findClass RX8 = some m.cls := findClass_of_methodNamed B.named
  have hlocks := B.notSynchronized
  subst hsz
  have hD := hD0.self (sz := s.heap.size)
  have hA : ∀ q : Nat, s.heap.size ≤ q → va_A [(m0, .inr (8, (.int 0 :: .int 20 :: .int 0 :: .int 0 :: .int 0 :: .int 60 :: .int 0 :: .int 3 :: .int 1 :: .int (-1) :: .ref mrf :: .ref mki :: .ref mpa :: .ref mta :: .ref mla :: .ref msl :: .ref mco :: .ref mhe :: .ref mso :: .ref msi :: .ref msh :: .ref mce :: .ref mca :: .ref mwo :: .ref mnu :: .ref mte :: .int 0 :: .int 0 :: .int 0 :: .int 0 :: .int 0 :: .ref mwa :: .ref mke :: .ref mma :: .ref mth :: .ref mtr :: .int 0 :: .int 0 :: []))), (mhe, .inl (cI, 8, .inl (fun _ => 0)))] s.heap.size q := fun q h => Or.inr h
  have hS : va_S (va_A [(m0, .inr (8, (.int 0 :: .int 20 :: .int 0 :: .int 0 :: .int 0 :: .int 60 :: .int 0 :: .int 3 :: .int 1 :: .int (-1) :: .ref mrf :: .ref mki :: .ref mpa :: .ref mta :: .ref mla :: .ref msl :: .ref mco :: .ref mhe :: .ref mso :: .ref msi :: .ref msh :: .ref mce :: .ref mca :: .ref mwo :: .ref mnu :: .ref mte :: .int 0 :: .int 0 :: .int 0 :: .int 0 :: .int 0 :: .ref mwa :: .ref mke :: .ref mma :: .ref mth :: .ref mtr :: .int 0 :: .int 0 :: []))), (mhe, .inl (cI, 8, .inl (fun _ => 0)))] s.heap.size) s.heap s.heap [] := va_S.rf
  replace hP : va_P D vwCl _ s.heap := hP
  have hl := lv_entry ([.ref m0, .int s_, .int i]) (n := 3) (Nat.le_of_ble_eq_true rfl)
  rw [lg_entry_eq]
  generalize (lg_sl ([.ref m0, .int s_, .int i]) ++ List.replicate (3 - (lg_sl ([.ref m0, .int s_, .int i])).length) Slot.unset).toArray = ls at hl ⊢
  replace hl : lv_has ls 3 [(0, .ref m0), (1, .int s_), (2, .int i)] := hl
  refine zw_start (fun H locs hH hL => ?_)
  replace hP : va_P D vwCl [(m0, .inr (8, (.int 0 :: .int 20 :: .int 0 :: .int 0 :: .int 0 :: .int 60 :: .int 0 :: .int 3 :: .int 1 :: .int (-1) :: .ref mrf :: .ref mki :: .ref mpa :: .ref mta :: .ref mla :: .ref msl :: .ref mco :: .ref mhe :: .ref mso :: .ref msi :: .ref msh :: .ref mce :: .ref mca :: .ref mwo :: .ref mnu :: .ref mte :: .int 0 :: .int 0 :: .int 0 :: .int 0 :: .int 0 :: .ref mwa :: .ref mke :: .ref mma :: .ref mth :: .ref mtr :: .int 0 :: .int 0 :: []))), (mhe, .inl (cI, 8, .inl (fun _ => 0)))] H := by rw [hH]; exact hP
  replace hS : va_S (va_A [(m0, .inr (8, (.int 0 :: .int 20 :: .int 0 :: .int 0 :: .int 0 :: .int 60 :: .int 0 :: .int 3 :: .int 1 :: .int (-1) :: .ref mrf :: .ref mki :: .ref mpa :: .ref mta :: .ref mla :: .ref msl :: .ref mco :: .ref mhe :: .ref mso :: .ref msi :: .ref msh :: .ref mce :: .ref mca :: .ref mwo :: .ref mnu :: .ref mte :: .int 0 :: .int 0 :: .int 0 :: .int 0 :: .int 0 :: .ref mwa :: .ref mke :: .ref mma :: .ref mth :: .ref mtr :: .int 0 :: .int 0 :: []))), (mhe, .inl (cI, 8, .inl (fun _ => 0)))] s.heap.size) s.heap H locs := by rw [hH, hL]; exact hS
  clear hH hL
  refine lv_aload_n hx hb dX8_element_0 rfl (lv_at hl 0 rfl) ?_
  refine lv_iload_n hx hb dX8_element_1 rfl (lv_at hl 1 rfl) ?_
  refine zc_V (As := [.int s_]) (rest := []) ⟨hx, hb, hml, hown, hts⟩ (c_M_isShelf l D cI cJ cZ cP cS m0 mrf mki mpa mta mla msl mco mhe mso msi msh mce mca mwo mnu mte mwa mke mma mth mtr (s_) ) (cwV 1 hts gX8_element_X8_isShelf rfl rfl rfl (by decide +kernel) ⟨Nat.le_of_ble_eq_true rfl, Nat.le_of_ble_eq_true rfl⟩) hK hN (hZ.kept hS) hP [0] rfl (va_recv hK hP (ci := 8) (q0 := 0) rfl rfl) rfl hl.1 rfl (Nat.le_of_ble_eq_true rfl) dX8_element_2 ⟨Nat.le_of_ble_eq_true rfl, Nat.le_of_ble_eq_true rfl⟩ (fun r_1 hr_1 => ?_)
  rcases hr_1 with ⟨rfl, g_2⟩ | ⟨rfl, g_3, g_4⟩ | ⟨rfl, g_5, g_6⟩
  · refine lv_if_eq (tgt := 47) hx hb dX8_element_5 (by decide) (fun c_7 => ?_) (fun c_7 => ?_)
    · refine lv_lconst (v := 0) hx hb dX8_element_47 (by decide) ?_
      exact W.lret (v := 0) hx hb hr (fun t ht hW => ⟨⟨0, (), rfl, Or.inl (⟨rfl, (by first | omega | decide)⟩), zP_nil, zD_nil⟩, hS.F ht⟩) hS.2.2 dX8_element_48
    · exact absurd c_7 (by decide)
  · refine lv_if_eq (tgt := 47) hx hb dX8_element_5 (by decide) (fun c_8 => ?_) (fun c_8 => ?_)
    · refine lv_lconst (v := 0) hx hb dX8_element_47 (by decide) ?_
      exact W.lret (v := 0) hx hb hr (fun t ht hW => ⟨⟨0, (), rfl, Or.inr (Or.inl (⟨rfl, (by first | omega | decide), (by first | omega | decide)⟩)), zP_nil, zD_nil⟩, hS.F ht⟩) hS.2.2 dX8_element_48
    · exact absurd c_8 (by decide)
  · refine lv_if_eq (tgt := 47) hx hb dX8_element_5 (by decide) (fun c_9 => ?_) (fun c_9 => ?_)
    · exact absurd c_9 (by decide)
    · refine lv_aload_n hx hb dX8_element_8 rfl (lv_at hl 0 rfl) ?_
      refine va_get (D := D) (ci := 8) (v := .ref mhe) (C := RX8) (T := TX8) (N := 38) hx hb hts hi_X8_element_8 hown hK hP 0 rfl rfl 17 (by decide) (hts (.fieldLink RX8 47 "TheLiningsInItModel" "held" "[I") (List.mem_of_getElem? (i := 1) rfl)) (fun _ h9 => h9) rfl dX8_element_9 ?_
      refine lv_iload_n hx hb dX8_element_12 rfl (lv_at hl 1 rfl) ?_
      refine va_iald hx hb hK hP 1 0 rfl rfl (zf_in (by omega) (by omega)) dX8_element_13 ?_
      refine lv_topi (fun x_10 ex_10 => ?_)
      obtain rfl : x_10 = 0 := ex_10
      refine lv_iconst (v := 1) hx hb dX8_element_14 (by decide) ?_
      refine lv_icmp_ne (tgt := 47) hx hb dX8_element_15 (by decide) (fun c_11 => ?_) (fun c_11 => ?_)
      · refine lv_lconst (v := 0) hx hb dX8_element_47 (by decide) ?_
        exact W.lret (v := 0) hx hb hr (fun t ht hW => ⟨⟨0, (), rfl, Or.inr (Or.inr (⟨rfl, (by first | omega | decide), (by first | omega | decide)⟩)), zP_nil, zD_nil⟩, hS.F ht⟩) hS.2.2 dX8_element_48
      · exact absurd c_11 (by decide)
theorem hi_X8_show_8 : ∀ w ∈ u_ws RX8 TX8 38, w ∈ wsX8_show := by decide +kernel
set_option maxHeartbeats 4000000 in
set_option maxRecDepth 100000 in
theorem c_M_show (l : Launch) (D : va_G) (cI cJ cZ cP cS : ClassId) (m0 mrf mki mpa mta mla msl mco mhe mso msi msh mce mca mwo mnu mte mwa mke mma mth mtr : Nat) (s_ p_ : Int32)  (sz : Nat) : Met l yX8_show wsX8_show ({ frames := 1, cells := 0, slots := 0, locals := 21 }) (va_Pc [.ref m0, .int s_, .int p_] (zW D (zKT cI cJ cZ cP cS) [(m0, .inr (8, (.int 0 :: .int 20 :: .int 0 :: .int 0 :: .int 0 :: .int 60 :: .int 0 :: .int 3 :: .int 1 :: .int (-1) :: .ref mrf :: .ref mki :: .ref mpa :: .ref mta :: .ref mla :: .ref msl :: .ref mco :: .ref mhe :: .ref mso :: .ref msi :: .ref msh :: .ref mce :: .ref mca :: .ref mwo :: .ref mnu :: .ref mte :: .int 0 :: .int 0 :: .int 0 :: .int 0 :: .int 0 :: .ref mwa :: .ref mke :: .ref mma :: .ref mth :: .ref mtr :: .int 0 :: .int 0 :: []))), (mrf, .inl (cI, 8, .inl (fun _ => 0))), (mhe, .inl (cI, 8, .inl (fun _ => 0))), (msh, .inl (cI, 8, .inl (fun _ => 0)))] sz)) (va_Qi (fun (r : Int32) (_ : Unit) => (r = (-1) ∧ s_.toInt < 0) ∨ (r = (-1) ∧ 0 ≤ s_.toInt ∧ 8 ≤ s_.toInt) ∨ (r = 0 ∧ 0 ≤ s_.toInt ∧ s_.toInt < 8 ∧ p_.toInt = (-1)) ∨ (r = (-1) ∧ 0 ≤ s_.toInt ∧ s_.toInt < 8 ∧ p_.toInt ≠ (-1) ∧ p_.toInt < 0) ∨ (r = (-1) ∧ 0 ≤ s_.toInt ∧ s_.toInt < 8 ∧ p_.toInt ≠ (-1) ∧ 0 ≤ p_.toInt)) (zB D [(m0, .inr (8, (.int 0 :: .int 20 :: .int 0 :: .int 0 :: .int 0 :: .int 60 :: .int 0 :: .int 3 :: .int 1 :: .int (-1) :: .ref mrf :: .ref mki :: .ref mpa :: .ref mta :: .ref mla :: .ref msl :: .ref mco :: .ref mhe :: .ref mso :: .ref msi :: .ref msh :: .ref mce :: .ref mca :: .ref mwo :: .ref mnu :: .ref mte :: .int 0 :: .int 0 :: .int 0 :: .int 0 :: .int 0 :: .ref mwa :: .ref mke :: .ref mma :: .ref mth :: .ref mtr :: .int 0 :: .int 0 :: []))), (mrf, .inl (cI, 8, .inl (fun _ => 0))), (mhe, .inl (cI, 8, .inl (fun _ => 0))), (msh, .inl (cI, 8, .inl (fun _ => 0)))] sz (fun (_ : Unit) => ([] : va_W))) (va_A [(m0, .inr (8, (.int 0 :: .int 20 :: .int 0 :: .int 0 :: .int 0 :: .int 60 :: .int 0 :: .int 3 :: .int 1 :: .int (-1) :: .ref mrf :: .ref mki :: .ref mpa :: .ref mta :: .ref mla :: .ref msl :: .ref mco :: .ref mhe :: .ref mso :: .ref msi :: .ref msh :: .ref mce :: .ref mca :: .ref mwo :: .ref mnu :: .ref mte :: .int 0 :: .int 0 :: .int 0 :: .int 0 :: .int 0 :: .ref mwa :: .ref mke :: .ref mma :: .ref mth :: .ref mtr :: .int 0 :: .int 0 :: []))), (mrf, .inl (cI, 8, .inl (fun _ => 0))), (mhe, .inl (cI, 8, .inl (fun _ => 0))), (msh, .inl (cI, 8, .inl (fun _ => 0)))] sz)) 0 0 (va_A [(m0, .inr (8, (.int 0 :: .int 20 :: .int 0 :: .int 0 :: .int 0 :: .int 60 :: .int 0 :: .int 3 :: .int 1 :: .int (-1) :: .ref mrf :: .ref mki :: .ref mpa :: .ref mta :: .ref mla :: .ref msl :: .ref mco :: .ref mhe :: .ref mso :: .ref msi :: .ref msh :: .ref mce :: .ref mca :: .ref mwo :: .ref mnu :: .ref mte :: .int 0 :: .int 0 :: .int 0 :: .int 0 :: .int 0 :: .ref mwa :: .ref mke :: .ref mma :: .ref mth :: .ref mtr :: .int 0 :: .int 0 :: []))), (mrf, .inl (cI, 8, .inl (fun _ => 0))), (mhe, .inl (cI, 8, .inl (fun _ => 0))), (msh, .inl (cI, 8, .inl (fun _ => 0)))] sz) := by
  refine Met.ofW (cc := cX8_show) (maxL := 3) (ret := (some .int)) (by decide) rfl ?_
  intro p e s m args below meth c s₁ B hml hv
  obtain ⟨rfl, hsz, hP, hK, hD0, hN, hZ⟩ := hv
  have hx := B.exec
  have hb := B.bytes
  have hr := B.returns
  have hts := atoms_spec (ws := wsX8_show) B.pre
  have hown : s.vm.findClass RX8 = some m.cls := findClass_of_methodNamed B.named
  have hlocks := B.notSynchronized
  subst hsz
  have hD := hD0.self (sz := s.heap.size)
  have hA : ∀ q : Nat, s.heap.size ≤ q → va_A [(m0, .inr (8, (.int 0 :: .int 20 :: .int 0 :: .int 0 :: .int 0 :: .int 60 :: .int 0 :: .int 3 :: .int 1 :: .int (-1) :: .ref mrf :: .ref mki :: .ref mpa :: .ref mta :: .ref mla :: .ref msl :: .ref mco :: .ref mhe :: .ref mso :: .ref msi :: .ref msh :: .ref mce :: .ref mca :: .ref mwo :: .ref mnu :: .ref mte :: .int 0 :: .int 0 :: .int 0 :: .int 0 :: .int 0 :: .ref mwa :: .ref mke :: .ref mma :: .ref mth :: .ref mtr :: .int 0 :: .int 0 :: []))), (mrf, .inl (cI, 8, .inl (fun _ => 0))), (mhe, .inl (cI, 8, .inl (fun _ => 0))), (msh, .inl (cI, 8, .inl (fun _ => 0)))] s.heap.size q := fun q h => Or.inr h
  have hS : va_S (va_A [(m0, .inr (8, (.int 0 :: .int 20 :: .int 0 :: .int 0 :: .int 0 :: .int 60 :: .int 0 :: .int 3 :: .int 1 :: .int (-1) :: .ref mrf :: .ref mki :: .ref mpa :: .ref mta :: .ref mla :: .ref msl :: .ref mco :: .ref mhe :: .ref mso :: .ref msi :: .ref msh :: .ref mce :: .ref mca :: .ref mwo :: .ref mnu :: .ref mte :: .int 0 :: .int 0 :: .int 0 :: .int 0 :: .int 0 :: .ref mwa :: .ref mke :: .ref mma :: .ref mth :: .ref mtr :: .int 0 :: .int 0 :: []))), (mrf, .inl (cI, 8, .inl (fun _ => 0))), (mhe, .inl (cI, 8, .inl (fun _ => 0))), (msh, .inl (cI, 8, .inl (fun _ => 0)))] s.heap.size) s.heap s.heap [] := va_S.rf
  replace hP : va_P D vwCl _ s.heap := hP
  have hl := lv_entry ([.ref m0, .int s_, .int p_]) (n := 3) (Nat.le_of_ble_eq_true rfl)
  rw [lg_entry_eq]
  generalize (lg_sl ([.ref m0, .int s_, .int p_]) ++ List.replicate (3 - (lg_sl ([.ref m0, .int s_, .int p_])).length) Slot.unset).toArray = ls at hl ⊢
  replace hl : lv_has ls 3 [(0, .ref m0), (1, .int s_), (2, .int p_)] := hl
  refine zw_start (fun H locs hH hL => ?_)
  replace hP : va_P D vwCl [(m0, .inr (8, (.int 0 :: .int 20 :: .int 0 :: .int 0 :: .int 0 :: .int 60 :: .int 0 :: .int 3 :: .int 1 :: .int (-1) :: .ref mrf :: .ref mki :: .ref mpa :: .ref mta :: .ref mla :: .ref msl :: .ref mco :: .ref mhe :: .ref mso :: .ref msi :: .ref msh :: .ref mce :: .ref mca :: .ref mwo :: .ref mnu :: .ref mte :: .int 0 :: .int 0 :: .int 0 :: .int 0 :: .int 0 :: .ref mwa :: .ref mke :: .ref mma :: .ref mth :: .ref mtr :: .int 0 :: .int 0 :: []))), (mrf, .inl (cI, 8, .inl (fun _ => 0))), (mhe, .inl (cI, 8, .inl (fun _ => 0))), (msh, .inl (cI, 8, .inl (fun _ => 0)))] H := by rw [hH]; exact hP
  replace hS : va_S (va_A [(m0, .inr (8, (.int 0 :: .int 20 :: .int 0 :: .int 0 :: .int 0 :: .int 60 :: .int 0 :: .int 3 :: .int 1 :: .int (-1) :: .ref mrf :: .ref mki :: .ref mpa :: .ref mta :: .ref mla :: .ref msl :: .ref mco :: .ref mhe :: .ref mso :: .ref msi :: .ref msh :: .ref mce :: .ref mca :: .ref mwo :: .ref mnu :: .ref mte :: .int 0 :: .int 0 :: .int 0 :: .int 0 :: .int 0 :: .ref mwa :: .ref mke :: .ref mma :: .ref mth :: .ref mtr :: .int 0 :: .int 0 :: []))), (mrf, .inl (cI, 8, .inl (fun _ => 0))), (mhe, .inl (cI, 8, .inl (fun _ => 0))), (msh, .inl (cI, 8, .inl (fun _ => 0)))] s.heap.size) s.heap H locs := by rw [hH, hL]; exact hS
  clear hH hL
  refine lv_aload_n hx hb dX8_show_0 rfl (lv_at hl 0 rfl) ?_
  refine lv_iload_n hx hb dX8_show_1 rfl (lv_at hl 1 rfl) ?_
  refine zc_V (As := [.int s_]) (rest := []) ⟨hx, hb, hml, hown, hts⟩ (c_M_isShelf l D cI cJ cZ cP cS m0 mrf mki mpa mta mla msl mco mhe mso msi msh mce mca mwo mnu mte mwa mke mma mth mtr (s_) ) (cwV 1 hts gX8_show_X8_isShelf rfl rfl rfl (by decide +kernel) ⟨Nat.le_of_ble_eq_true rfl, Nat.le_of_ble_eq_true rfl⟩) hK hN (hZ.kept hS) hP [0] rfl (va_recv hK hP (ci := 8) (q0 := 0) rfl rfl) rfl hl.1 rfl (Nat.le_of_ble_eq_true rfl) dX8_show_2 ⟨Nat.le_of_ble_eq_true rfl, Nat.le_of_ble_eq_true rfl⟩ (fun r_1 hr_1 => ?_)
  rcases hr_1 with ⟨rfl, g_2⟩ | ⟨rfl, g_3, g_4⟩ | ⟨rfl, g_5, g_6⟩
  · refine lv_if_eq (tgt := 21) hx hb dX8_show_5 (by decide) (fun c_7 => ?_) (fun c_7 => ?_)
    · refine lv_aload_n hx hb dX8_show_21 rfl (lv_at hl 0 rfl) ?_
      refine lv_iconst (v := (-1)) hx hb dX8_show_22 (by decide) ?_
      skip
      refine zw_V (As := [.int (-1)]) (rest := []) (wr := []) ⟨hx, hb, hml, hown, hts⟩ (c_M_no_1 l D cI cJ cZ cP cS m0 mrf mki mpa mta mla msl mco mhe mso msi msh mce mca mwo mnu mte mwa mke mma mth mtr  H.size) (cwV 1 hts gX8_show_X8_no rfl rfl rfl (by decide +kernel) ⟨Nat.le_of_ble_eq_true rfl, Nat.le_of_ble_eq_true rfl⟩) hK hN (hZ.kept hS) hP hD hS hA [0, 1] [] rfl rfl (by decide) (by decide) (by decide) (va_recv hK hP (ci := 8) (q0 := 0) rfl rfl) rfl hl.1 rfl (Nat.le_of_ble_eq_true rfl) dX8_show_23 ⟨Nat.le_of_ble_eq_true rfl, Nat.le_of_ble_eq_true rfl⟩ (fun r_8 u_9 H locs hr_8 hP hD hS => ?_)
      obtain rfl := hr_8
      exact W.iret (v := (-1)) hx hb hr (fun t ht hW => ⟨⟨(-1), (), rfl, Or.inl (⟨rfl, (by first | omega | decide)⟩), zP_nil, zD_nil⟩, hS.F ht⟩) hS.2.2 dX8_show_26
    · exact absurd c_7 (by decide)
  · refine lv_if_eq (tgt := 21) hx hb dX8_show_5 (by decide) (fun c_10 => ?_) (fun c_10 => ?_)
    · refine lv_aload_n hx hb dX8_show_21 rfl (lv_at hl 0 rfl) ?_
      refine lv_iconst (v := (-1)) hx hb dX8_show_22 (by decide) ?_
      skip
      refine zw_V (As := [.int (-1)]) (rest := []) (wr := []) ⟨hx, hb, hml, hown, hts⟩ (c_M_no_1 l D cI cJ cZ cP cS m0 mrf mki mpa mta mla msl mco mhe mso msi msh mce mca mwo mnu mte mwa mke mma mth mtr  H.size) (cwV 1 hts gX8_show_X8_no rfl rfl rfl (by decide +kernel) ⟨Nat.le_of_ble_eq_true rfl, Nat.le_of_ble_eq_true rfl⟩) hK hN (hZ.kept hS) hP hD hS hA [0, 1] [] rfl rfl (by decide) (by decide) (by decide) (va_recv hK hP (ci := 8) (q0 := 0) rfl rfl) rfl hl.1 rfl (Nat.le_of_ble_eq_true rfl) dX8_show_23 ⟨Nat.le_of_ble_eq_true rfl, Nat.le_of_ble_eq_true rfl⟩ (fun r_11 u_12 H locs hr_11 hP hD hS => ?_)
      obtain rfl := hr_11
      exact W.iret (v := (-1)) hx hb hr (fun t ht hW => ⟨⟨(-1), (), rfl, Or.inr (Or.inl (⟨rfl, (by first | omega | decide), (by first | omega | decide)⟩)), zP_nil, zD_nil⟩, hS.F ht⟩) hS.2.2 dX8_show_26
    · exact absurd c_10 (by decide)
  · refine lv_if_eq (tgt := 21) hx hb dX8_show_5 (by decide) (fun c_13 => ?_) (fun c_13 => ?_)
    · exact absurd c_13 (by decide)
    · refine lv_iload_n hx hb dX8_show_8 rfl (lv_at hl 2 rfl) ?_
      refine lv_iconst (v := (-1)) hx hb dX8_show_9 (by decide) ?_
      refine lv_icmp_eq (tgt := 27) hx hb dX8_show_10 (by decide) (fun c_14 => ?_) (fun c_14 => ?_)
      · have fc_14 : p_.toInt = (-1) := zf_eq c_14 rfl (by decide)
        refine lv_aload_n hx hb dX8_show_27 rfl (lv_at hl 0 rfl) ?_
        refine va_get (D := D) (ci := 8) (v := .ref mhe) (C := RX8) (T := TX8) (N := 38) hx hb hts hi_X8_show_8 hown hK hP 0 rfl rfl 17 (by decide) (hts (.fieldLink RX8 47 "TheLiningsInItModel" "held" "[I") (List.mem_of_getElem? (i := 1) rfl)) (fun _ h9 => h9) rfl dX8_show_28 ?_
        refine lv_iload_n hx hb dX8_show_31 rfl (lv_at hl 1 rfl) ?_
        refine lv_iload_n hx hb dX8_show_32 rfl (lv_at hl 2 rfl) ?_
        refine lv_iconst (v := (-1)) hx hb dX8_show_33 (by decide) ?_
        refine lv_icmp_ne (tgt := 41) hx hb dX8_show_34 (by decide) (fun c_15 => ?_) (fun c_15 => ?_)
        · exfalso; have fc_15 : p_.toInt ≠ (-1) := zf_ne c_15 rfl (by decide); omega
        · have fc_15 : p_.toInt = (-1) := zf_eq c_15 rfl (by decide)
          refine lv_iconst (v := 0) hx hb dX8_show_37 (by decide) ?_
          refine lv_goto (tgt := 42) hx hb dX8_show_38 (by decide) ?_
          refine va_iast hx hb hK hP hD hS 2 0 rfl rfl (zf_in (by omega) (by omega)) dX8_show_42 (fun H locs hP hD hS => ?_)
          refine lv_aload_n hx hb dX8_show_43 rfl (lv_at hl 0 rfl) ?_
          refine va_get (D := D) (ci := 8) (v := .ref msh) (C := RX8) (T := TX8) (N := 38) hx hb hts hi_X8_show_8 hown hK hP 0 rfl rfl 20 (by decide) (hts (.fieldLink RX8 56 "TheLiningsInItModel" "shown" "[I") (List.mem_of_getElem? (i := 2) rfl)) (fun _ h9 => h9) rfl dX8_show_44 ?_
          refine lv_iload_n hx hb dX8_show_47 rfl (lv_at hl 1 rfl) ?_
          refine lv_iload_n hx hb dX8_show_48 rfl (lv_at hl 2 rfl) ?_
          refine va_iast hx hb hK hP hD hS 3 0 rfl rfl (zf_in (by omega) (by omega)) dX8_show_49 (fun H locs hP hD hS => ?_)
          refine lv_iload_n hx hb dX8_show_50 rfl (lv_at hl 2 rfl) ?_
          refine lv_iconst (v := (-1)) hx hb dX8_show_51 (by decide) ?_
          refine lv_icmp_ne (tgt := 59) hx hb dX8_show_52 (by decide) (fun c_16 => ?_) (fun c_16 => ?_)
          · exfalso; have fc_16 : p_.toInt ≠ (-1) := zf_ne c_16 rfl (by decide); omega
          · have fc_16 : p_.toInt = (-1) := zf_eq c_16 rfl (by decide)
            refine lv_iconst (v := 0) hx hb dX8_show_55 (by decide) ?_
            refine lv_goto (tgt := 60) hx hb dX8_show_56 (by decide) ?_
            exact W.iret (v := 0) hx hb hr (fun t ht hW => ⟨⟨0, (), rfl, Or.inr (Or.inr (Or.inl (⟨rfl, (by first | omega | decide), (by first | omega | decide), (by first | omega | decide)⟩))), zP_nil, zD_nil⟩, hS.F ht⟩) hS.2.2 dX8_show_60
      · have fc_14 : p_.toInt ≠ (-1) := zf_ne c_14 rfl (by decide)
        refine lv_aload_n hx hb dX8_show_13 rfl (lv_at hl 0 rfl) ?_
        refine lv_iload_n hx hb dX8_show_14 rfl (lv_at hl 2 rfl) ?_
        refine zc_V (As := [.int p_]) (rest := []) ⟨hx, hb, hml, hown, hts⟩ (c_M_isPull l D cI cJ cZ cP cS m0 mrf mki mpa mta mla msl mco mhe mso msi msh mce mca mwo mnu mte mwa mke mma mth mtr (p_) ) (cwV 1 hts gX8_show_X8_isPull rfl rfl rfl (by decide +kernel) ⟨Nat.le_of_ble_eq_true rfl, Nat.le_of_ble_eq_true rfl⟩) hK hN (hZ.kept hS) hP [0] rfl (va_recv hK hP (ci := 8) (q0 := 0) rfl rfl) rfl hl.1 rfl (Nat.le_of_ble_eq_true rfl) dX8_show_15 ⟨Nat.le_of_ble_eq_true rfl, Nat.le_of_ble_eq_true rfl⟩ (fun r_17 hr_17 => ?_)
        rcases hr_17 with ⟨rfl, g_18⟩ | ⟨rfl, g_19⟩
        · refine lv_if_ne (tgt := 27) hx hb dX8_show_18 (by decide) (fun c_20 => ?_) (fun c_20 => ?_)
          · exact absurd c_20 (by decide)
          · refine lv_aload_n hx hb dX8_show_21 rfl (lv_at hl 0 rfl) ?_
            refine lv_iconst (v := (-1)) hx hb dX8_show_22 (by decide) ?_
            skip
            refine zw_V (As := [.int (-1)]) (rest := []) (wr := []) ⟨hx, hb, hml, hown, hts⟩ (c_M_no_1 l D cI cJ cZ cP cS m0 mrf mki mpa mta mla msl mco mhe mso msi msh mce mca mwo mnu mte mwa mke mma mth mtr  H.size) (cwV 1 hts gX8_show_X8_no rfl rfl rfl (by decide +kernel) ⟨Nat.le_of_ble_eq_true rfl, Nat.le_of_ble_eq_true rfl⟩) hK hN (hZ.kept hS) hP hD hS hA [0, 1] [] rfl rfl (by decide) (by decide) (by decide) (va_recv hK hP (ci := 8) (q0 := 0) rfl rfl) rfl hl.1 rfl (Nat.le_of_ble_eq_true rfl) dX8_show_23 ⟨Nat.le_of_ble_eq_true rfl, Nat.le_of_ble_eq_true rfl⟩ (fun r_21 u_22 H locs hr_21 hP hD hS => ?_)
            obtain rfl := hr_21
            exact W.iret (v := (-1)) hx hb hr (fun t ht hW => ⟨⟨(-1), (), rfl, Or.inr (Or.inr (Or.inr (Or.inl (⟨rfl, (by first | omega | decide), (by first | omega | decide), (by first | omega | decide), (by first | omega | decide)⟩)))), zP_nil, zD_nil⟩, hS.F ht⟩) hS.2.2 dX8_show_26
        · refine lv_if_ne (tgt := 27) hx hb dX8_show_18 (by decide) (fun c_23 => ?_) (fun c_23 => ?_)
          · exact absurd c_23 (by decide)
          · refine lv_aload_n hx hb dX8_show_21 rfl (lv_at hl 0 rfl) ?_
            refine lv_iconst (v := (-1)) hx hb dX8_show_22 (by decide) ?_
            skip
            refine zw_V (As := [.int (-1)]) (rest := []) (wr := []) ⟨hx, hb, hml, hown, hts⟩ (c_M_no_1 l D cI cJ cZ cP cS m0 mrf mki mpa mta mla msl mco mhe mso msi msh mce mca mwo mnu mte mwa mke mma mth mtr  H.size) (cwV 1 hts gX8_show_X8_no rfl rfl rfl (by decide +kernel) ⟨Nat.le_of_ble_eq_true rfl, Nat.le_of_ble_eq_true rfl⟩) hK hN (hZ.kept hS) hP hD hS hA [0, 1] [] rfl rfl (by decide) (by decide) (by decide) (va_recv hK hP (ci := 8) (q0 := 0) rfl rfl) rfl hl.1 rfl (Nat.le_of_ble_eq_true rfl) dX8_show_23 ⟨Nat.le_of_ble_eq_true rfl, Nat.le_of_ble_eq_true rfl⟩ (fun r_24 u_25 H locs hr_24 hP hD hS => ?_)
            obtain rfl := hr_24
            exact W.iret (v := (-1)) hx hb hr (fun t ht hW => ⟨⟨(-1), (), rfl, Or.inr (Or.inr (Or.inr (Or.inr (⟨rfl, (by first | omega | decide), (by first | omega | decide), (by first | omega | decide), (by first | omega | decide)⟩)))), zP_nil, zD_nil⟩, hS.F ht⟩) hS.2.2 dX8_show_26
theorem hi_X8_holds_8 : ∀ w ∈ u_ws RX8 TX8 38, w ∈ wsX8_holds := by decide +kernel
set_option maxHeartbeats 4000000 in
set_option maxRecDepth 100000 in
theorem c_M_holds (l : Launch) (D : va_G) (cI cJ cZ cP cS : ClassId) (m0 mrf mki mpa mta mla msl mco mhe mso msi msh mce mca mwo mnu mte mwa mke mma mth mtr : Nat) (s_ : Int32)  (sz : Nat) : Met l yX8_holds wsX8_holds ({ frames := 1, cells := 0, slots := 0, locals := 21 }) (va_Pc [.ref m0, .int s_] (zW D (zKT cI cJ cZ cP cS) [(m0, .inr (8, (.int 0 :: .int 20 :: .int 0 :: .int 0 :: .int 0 :: .int 60 :: .int 0 :: .int 3 :: .int 1 :: .int (-1) :: .ref mrf :: .ref mki :: .ref mpa :: .ref mta :: .ref mla :: .ref msl :: .ref mco :: .ref mhe :: .ref mso :: .ref msi :: .ref msh :: .ref mce :: .ref mca :: .ref mwo :: .ref mnu :: .ref mte :: .int 0 :: .int 0 :: .int 0 :: .int 0 :: .int 0 :: .ref mwa :: .ref mke :: .ref mma :: .ref mth :: .ref mtr :: .int 0 :: .int 0 :: []))), (mhe, .inl (cI, 8, .inl (fun _ => 0)))] sz)) (va_Qi (fun (r : Int32) (_ : Unit) => (r = (-1) ∧ s_.toInt < 0) ∨ (r = (-1) ∧ 0 ≤ s_.toInt ∧ 8 ≤ s_.toInt) ∨ (r = (-1) ∧ 0 ≤ s_.toInt ∧ s_.toInt < 8)) (zB D [(m0, .inr (8, (.int 0 :: .int 20 :: .int 0 :: .int 0 :: .int 0 :: .int 60 :: .int 0 :: .int 3 :: .int 1 :: .int (-1) :: .ref mrf :: .ref mki :: .ref mpa :: .ref mta :: .ref mla :: .ref msl :: .ref mco :: .ref mhe :: .ref mso :: .ref msi :: .ref msh :: .ref mce :: .ref mca :: .ref mwo :: .ref mnu :: .ref mte :: .int 0 :: .int 0 :: .int 0 :: .int 0 :: .int 0 :: .ref mwa :: .ref mke :: .ref mma :: .ref mth :: .ref mtr :: .int 0 :: .int 0 :: []))), (mhe, .inl (cI, 8, .inl (fun _ => 0)))] sz (fun (_ : Unit) => ([] : va_W))) (va_A [(m0, .inr (8, (.int 0 :: .int 20 :: .int 0 :: .int 0 :: .int 0 :: .int 60 :: .int 0 :: .int 3 :: .int 1 :: .int (-1) :: .ref mrf :: .ref mki :: .ref mpa :: .ref mta :: .ref mla :: .ref msl :: .ref mco :: .ref mhe :: .ref mso :: .ref msi :: .ref msh :: .ref mce :: .ref mca :: .ref mwo :: .ref mnu :: .ref mte :: .int 0 :: .int 0 :: .int 0 :: .int 0 :: .int 0 :: .ref mwa :: .ref mke :: .ref mma :: .ref mth :: .ref mtr :: .int 0 :: .int 0 :: []))), (mhe, .inl (cI, 8, .inl (fun _ => 0)))] sz)) 0 0 (va_A [(m0, .inr (8, (.int 0 :: .int 20 :: .int 0 :: .int 0 :: .int 0 :: .int 60 :: .int 0 :: .int 3 :: .int 1 :: .int (-1) :: .ref mrf :: .ref mki :: .ref mpa :: .ref mta :: .ref mla :: .ref msl :: .ref mco :: .ref mhe :: .ref mso :: .ref msi :: .ref msh :: .ref mce :: .ref mca :: .ref mwo :: .ref mnu :: .ref mte :: .int 0 :: .int 0 :: .int 0 :: .int 0 :: .int 0 :: .ref mwa :: .ref mke :: .ref mma :: .ref mth :: .ref mtr :: .int 0 :: .int 0 :: []))), (mhe, .inl (cI, 8, .inl (fun _ => 0)))] sz) := by
  refine Met.ofW (cc := cX8_holds) (maxL := 2) (ret := (some .int)) (by decide) rfl ?_
  intro p e s m args below meth c s₁ B hml hv
  obtain ⟨rfl, hsz, hP, hK, hD0, hN, hZ⟩ := hv
  have hx := B.exec
  have hb := B.bytes
  have hr := B.returns
  have hts := atoms_spec (ws := wsX8_holds) B.pre
  have hown : s.vm.findClass RX8 = some m.cls := findClass_of_methodNamed B.named
  have hlocks := B.notSynchronized
  subst hsz
  have hD := hD0.self (sz := s.heap.size)
  have hA : ∀ q : Nat, s.heap.size ≤ q → va_A [(m0, .inr (8, (.int 0 :: .int 20 :: .int 0 :: .int 0 :: .int 0 :: .int 60 :: .int 0 :: .int 3 :: .int 1 :: .int (-1) :: .ref mrf :: .ref mki :: .ref mpa :: .ref mta :: .ref mla :: .ref msl :: .ref mco :: .ref mhe :: .ref mso :: .ref msi :: .ref msh :: .ref mce :: .ref mca :: .ref mwo :: .ref mnu :: .ref mte :: .int 0 :: .int 0 :: .int 0 :: .int 0 :: .int 0 :: .ref mwa :: .ref mke :: .ref mma :: .ref mth :: .ref mtr :: .int 0 :: .int 0 :: []))), (mhe, .inl (cI, 8, .inl (fun _ => 0)))] s.heap.size q := fun q h => Or.inr h
  have hS : va_S (va_A [(m0, .inr (8, (.int 0 :: .int 20 :: .int 0 :: .int 0 :: .int 0 :: .int 60 :: .int 0 :: .int 3 :: .int 1 :: .int (-1) :: .ref mrf :: .ref mki :: .ref mpa :: .ref mta :: .ref mla :: .ref msl :: .ref mco :: .ref mhe :: .ref mso :: .ref msi :: .ref msh :: .ref mce :: .ref mca :: .ref mwo :: .ref mnu :: .ref mte :: .int 0 :: .int 0 :: .int 0 :: .int 0 :: .int 0 :: .ref mwa :: .ref mke :: .ref mma :: .ref mth :: .ref mtr :: .int 0 :: .int 0 :: []))), (mhe, .inl (cI, 8, .inl (fun _ => 0)))] s.heap.size) s.heap s.heap [] := va_S.rf
  replace hP : va_P D vwCl _ s.heap := hP
  have hl := lv_entry ([.ref m0, .int s_]) (n := 2) (Nat.le_of_ble_eq_true rfl)
  rw [lg_entry_eq]
  generalize (lg_sl ([.ref m0, .int s_]) ++ List.replicate (2 - (lg_sl ([.ref m0, .int s_])).length) Slot.unset).toArray = ls at hl ⊢
  replace hl : lv_has ls 2 [(0, .ref m0), (1, .int s_)] := hl
  refine zw_start (fun H locs hH hL => ?_)
  replace hP : va_P D vwCl [(m0, .inr (8, (.int 0 :: .int 20 :: .int 0 :: .int 0 :: .int 0 :: .int 60 :: .int 0 :: .int 3 :: .int 1 :: .int (-1) :: .ref mrf :: .ref mki :: .ref mpa :: .ref mta :: .ref mla :: .ref msl :: .ref mco :: .ref mhe :: .ref mso :: .ref msi :: .ref msh :: .ref mce :: .ref mca :: .ref mwo :: .ref mnu :: .ref mte :: .int 0 :: .int 0 :: .int 0 :: .int 0 :: .int 0 :: .ref mwa :: .ref mke :: .ref mma :: .ref mth :: .ref mtr :: .int 0 :: .int 0 :: []))), (mhe, .inl (cI, 8, .inl (fun _ => 0)))] H := by rw [hH]; exact hP
  replace hS : va_S (va_A [(m0, .inr (8, (.int 0 :: .int 20 :: .int 0 :: .int 0 :: .int 0 :: .int 60 :: .int 0 :: .int 3 :: .int 1 :: .int (-1) :: .ref mrf :: .ref mki :: .ref mpa :: .ref mta :: .ref mla :: .ref msl :: .ref mco :: .ref mhe :: .ref mso :: .ref msi :: .ref msh :: .ref mce :: .ref mca :: .ref mwo :: .ref mnu :: .ref mte :: .int 0 :: .int 0 :: .int 0 :: .int 0 :: .int 0 :: .ref mwa :: .ref mke :: .ref mma :: .ref mth :: .ref mtr :: .int 0 :: .int 0 :: []))), (mhe, .inl (cI, 8, .inl (fun _ => 0)))] s.heap.size) s.heap H locs := by rw [hH, hL]; exact hS
  clear hH hL
  refine lv_aload_n hx hb dX8_holds_0 rfl (lv_at hl 0 rfl) ?_
  refine lv_iload_n hx hb dX8_holds_1 rfl (lv_at hl 1 rfl) ?_
  refine zc_V (As := [.int s_]) (rest := []) ⟨hx, hb, hml, hown, hts⟩ (c_M_isShelf l D cI cJ cZ cP cS m0 mrf mki mpa mta mla msl mco mhe mso msi msh mce mca mwo mnu mte mwa mke mma mth mtr (s_) ) (cwV 1 hts gX8_holds_X8_isShelf rfl rfl rfl (by decide +kernel) ⟨Nat.le_of_ble_eq_true rfl, Nat.le_of_ble_eq_true rfl⟩) hK hN (hZ.kept hS) hP [0] rfl (va_recv hK hP (ci := 8) (q0 := 0) rfl rfl) rfl hl.1 rfl (Nat.le_of_ble_eq_true rfl) dX8_holds_2 ⟨Nat.le_of_ble_eq_true rfl, Nat.le_of_ble_eq_true rfl⟩ (fun r_1 hr_1 => ?_)
  rcases hr_1 with ⟨rfl, g_2⟩ | ⟨rfl, g_3, g_4⟩ | ⟨rfl, g_5, g_6⟩
  · refine lv_if_eq (tgt := 17) hx hb dX8_holds_5 (by decide) (fun c_7 => ?_) (fun c_7 => ?_)
    · refine lv_iconst (v := (-1)) hx hb dX8_holds_17 (by decide) ?_
      exact W.iret (v := (-1)) hx hb hr (fun t ht hW => ⟨⟨(-1), (), rfl, Or.inl (⟨rfl, (by first | omega | decide)⟩), zP_nil, zD_nil⟩, hS.F ht⟩) hS.2.2 dX8_holds_18
    · exact absurd c_7 (by decide)
  · refine lv_if_eq (tgt := 17) hx hb dX8_holds_5 (by decide) (fun c_8 => ?_) (fun c_8 => ?_)
    · refine lv_iconst (v := (-1)) hx hb dX8_holds_17 (by decide) ?_
      exact W.iret (v := (-1)) hx hb hr (fun t ht hW => ⟨⟨(-1), (), rfl, Or.inr (Or.inl (⟨rfl, (by first | omega | decide), (by first | omega | decide)⟩)), zP_nil, zD_nil⟩, hS.F ht⟩) hS.2.2 dX8_holds_18
    · exact absurd c_8 (by decide)
  · refine lv_if_eq (tgt := 17) hx hb dX8_holds_5 (by decide) (fun c_9 => ?_) (fun c_9 => ?_)
    · exact absurd c_9 (by decide)
    · refine lv_aload_n hx hb dX8_holds_8 rfl (lv_at hl 0 rfl) ?_
      refine va_get (D := D) (ci := 8) (v := .ref mhe) (C := RX8) (T := TX8) (N := 38) hx hb hts hi_X8_holds_8 hown hK hP 0 rfl rfl 17 (by decide) (hts (.fieldLink RX8 47 "TheLiningsInItModel" "held" "[I") (List.mem_of_getElem? (i := 1) rfl)) (fun _ h9 => h9) rfl dX8_holds_9 ?_
      refine lv_iload_n hx hb dX8_holds_12 rfl (lv_at hl 1 rfl) ?_
      refine va_iald hx hb hK hP 1 0 rfl rfl (zf_in (by omega) (by omega)) dX8_holds_13 ?_
      refine lv_topi (fun x_10 ex_10 => ?_)
      obtain rfl : x_10 = 0 := ex_10
      refine lv_if_ne (tgt := 19) hx hb dX8_holds_14 (by decide) (fun c_11 => ?_) (fun c_11 => ?_)
      · exact absurd c_11 (by decide)
      · refine lv_iconst (v := (-1)) hx hb dX8_holds_17 (by decide) ?_
        exact W.iret (v := (-1)) hx hb hr (fun t ht hW => ⟨⟨(-1), (), rfl, Or.inr (Or.inr (⟨rfl, (by first | omega | decide), (by first | omega | decide)⟩)), zP_nil, zD_nil⟩, hS.F ht⟩) hS.2.2 dX8_holds_18
theorem hi_X8_says_8 : ∀ w ∈ u_ws RX8 TX8 38, w ∈ wsX8_says := by decide +kernel
set_option maxHeartbeats 4000000 in
set_option maxRecDepth 100000 in
theorem c_M_says (l : Launch) (D : va_G) (cI cJ cZ cP cS : ClassId) (m0 mrf mki mpa mta mla msl mco mhe mso msi msh mce mca mwo mnu mte mwa mke mma mth mtr : Nat) (s_ k : Int32)  (sz : Nat) : Met l yX8_says wsX8_says ({ frames := 1, cells := 0, slots := 0, locals := 21 }) (va_Pc [.ref m0, .int s_, .int k] (zW D (zKT cI cJ cZ cP cS) [(m0, .inr (8, (.int 0 :: .int 20 :: .int 0 :: .int 0 :: .int 0 :: .int 60 :: .int 0 :: .int 3 :: .int 1 :: .int (-1) :: .ref mrf :: .ref mki :: .ref mpa :: .ref mta :: .ref mla :: .ref msl :: .ref mco :: .ref mhe :: .ref mso :: .ref msi :: .ref msh :: .ref mce :: .ref mca :: .ref mwo :: .ref mnu :: .ref mte :: .int 0 :: .int 0 :: .int 0 :: .int 0 :: .int 0 :: .ref mwa :: .ref mke :: .ref mma :: .ref mth :: .ref mtr :: .int 0 :: .int 0 :: []))), (mrf, .inl (cI, 8, .inl (fun _ => 0))), (mhe, .inl (cI, 8, .inl (fun _ => 0)))] sz)) (va_Qi (fun (r : Int32) (_ : Unit) => (r = (-1) ∧ s_.toInt < 0) ∨ (r = (-1) ∧ 0 ≤ s_.toInt ∧ 8 ≤ s_.toInt) ∨ (r = (-1) ∧ 0 ≤ s_.toInt ∧ s_.toInt < 8 ∧ k.toInt < 0) ∨ (r = (-3) ∧ 0 ≤ s_.toInt ∧ s_.toInt < 8 ∧ 0 ≤ k.toInt ∧ k.toInt ≤ 6) ∨ (r = (-1) ∧ 0 ≤ s_.toInt ∧ s_.toInt < 8 ∧ 0 ≤ k.toInt ∧ 6 < k.toInt)) (zB D [(m0, .inr (8, (.int 0 :: .int 20 :: .int 0 :: .int 0 :: .int 0 :: .int 60 :: .int 0 :: .int 3 :: .int 1 :: .int (-1) :: .ref mrf :: .ref mki :: .ref mpa :: .ref mta :: .ref mla :: .ref msl :: .ref mco :: .ref mhe :: .ref mso :: .ref msi :: .ref msh :: .ref mce :: .ref mca :: .ref mwo :: .ref mnu :: .ref mte :: .int 0 :: .int 0 :: .int 0 :: .int 0 :: .int 0 :: .ref mwa :: .ref mke :: .ref mma :: .ref mth :: .ref mtr :: .int 0 :: .int 0 :: []))), (mrf, .inl (cI, 8, .inl (fun _ => 0))), (mhe, .inl (cI, 8, .inl (fun _ => 0)))] sz (fun (_ : Unit) => ([] : va_W))) (va_A [(m0, .inr (8, (.int 0 :: .int 20 :: .int 0 :: .int 0 :: .int 0 :: .int 60 :: .int 0 :: .int 3 :: .int 1 :: .int (-1) :: .ref mrf :: .ref mki :: .ref mpa :: .ref mta :: .ref mla :: .ref msl :: .ref mco :: .ref mhe :: .ref mso :: .ref msi :: .ref msh :: .ref mce :: .ref mca :: .ref mwo :: .ref mnu :: .ref mte :: .int 0 :: .int 0 :: .int 0 :: .int 0 :: .int 0 :: .ref mwa :: .ref mke :: .ref mma :: .ref mth :: .ref mtr :: .int 0 :: .int 0 :: []))), (mrf, .inl (cI, 8, .inl (fun _ => 0))), (mhe, .inl (cI, 8, .inl (fun _ => 0)))] sz)) 0 0 (va_A [(m0, .inr (8, (.int 0 :: .int 20 :: .int 0 :: .int 0 :: .int 0 :: .int 60 :: .int 0 :: .int 3 :: .int 1 :: .int (-1) :: .ref mrf :: .ref mki :: .ref mpa :: .ref mta :: .ref mla :: .ref msl :: .ref mco :: .ref mhe :: .ref mso :: .ref msi :: .ref msh :: .ref mce :: .ref mca :: .ref mwo :: .ref mnu :: .ref mte :: .int 0 :: .int 0 :: .int 0 :: .int 0 :: .int 0 :: .ref mwa :: .ref mke :: .ref mma :: .ref mth :: .ref mtr :: .int 0 :: .int 0 :: []))), (mrf, .inl (cI, 8, .inl (fun _ => 0))), (mhe, .inl (cI, 8, .inl (fun _ => 0)))] sz) := by
  refine Met.ofW (cc := cX8_says) (maxL := 6) (ret := (some .int)) (by decide) rfl ?_
  intro p e s m args below meth c s₁ B hml hv
  obtain ⟨rfl, hsz, hP, hK, hD0, hN, hZ⟩ := hv
  have hx := B.exec
  have hb := B.bytes
  have hr := B.returns
  have hts := atoms_spec (ws := wsX8_says) B.pre
  have hown : s.vm.findClass RX8 = some m.cls := findClass_of_methodNamed B.named
  have hlocks := B.notSynchronized
  subst hsz
  have hD := hD0.self (sz := s.heap.size)
  have hA : ∀ q : Nat, s.heap.size ≤ q → va_A [(m0, .inr (8, (.int 0 :: .int 20 :: .int 0 :: .int 0 :: .int 0 :: .int 60 :: .int 0 :: .int 3 :: .int 1 :: .int (-1) :: .ref mrf :: .ref mki :: .ref mpa :: .ref mta :: .ref mla :: .ref msl :: .ref mco :: .ref mhe :: .ref mso :: .ref msi :: .ref msh :: .ref mce :: .ref mca :: .ref mwo :: .ref mnu :: .ref mte :: .int 0 :: .int 0 :: .int 0 :: .int 0 :: .int 0 :: .ref mwa :: .ref mke :: .ref mma :: .ref mth :: .ref mtr :: .int 0 :: .int 0 :: []))), (mrf, .inl (cI, 8, .inl (fun _ => 0))), (mhe, .inl (cI, 8, .inl (fun _ => 0)))] s.heap.size q := fun q h => Or.inr h
  have hS : va_S (va_A [(m0, .inr (8, (.int 0 :: .int 20 :: .int 0 :: .int 0 :: .int 0 :: .int 60 :: .int 0 :: .int 3 :: .int 1 :: .int (-1) :: .ref mrf :: .ref mki :: .ref mpa :: .ref mta :: .ref mla :: .ref msl :: .ref mco :: .ref mhe :: .ref mso :: .ref msi :: .ref msh :: .ref mce :: .ref mca :: .ref mwo :: .ref mnu :: .ref mte :: .int 0 :: .int 0 :: .int 0 :: .int 0 :: .int 0 :: .ref mwa :: .ref mke :: .ref mma :: .ref mth :: .ref mtr :: .int 0 :: .int 0 :: []))), (mrf, .inl (cI, 8, .inl (fun _ => 0))), (mhe, .inl (cI, 8, .inl (fun _ => 0)))] s.heap.size) s.heap s.heap [] := va_S.rf
  replace hP : va_P D vwCl _ s.heap := hP
  have hl := lv_entry ([.ref m0, .int s_, .int k]) (n := 6) (Nat.le_of_ble_eq_true rfl)
  rw [lg_entry_eq]
  generalize (lg_sl ([.ref m0, .int s_, .int k]) ++ List.replicate (6 - (lg_sl ([.ref m0, .int s_, .int k])).length) Slot.unset).toArray = ls at hl ⊢
  replace hl : lv_has ls 6 [(0, .ref m0), (1, .int s_), (2, .int k)] := hl
  refine zw_start (fun H locs hH hL => ?_)
  replace hP : va_P D vwCl [(m0, .inr (8, (.int 0 :: .int 20 :: .int 0 :: .int 0 :: .int 0 :: .int 60 :: .int 0 :: .int 3 :: .int 1 :: .int (-1) :: .ref mrf :: .ref mki :: .ref mpa :: .ref mta :: .ref mla :: .ref msl :: .ref mco :: .ref mhe :: .ref mso :: .ref msi :: .ref msh :: .ref mce :: .ref mca :: .ref mwo :: .ref mnu :: .ref mte :: .int 0 :: .int 0 :: .int 0 :: .int 0 :: .int 0 :: .ref mwa :: .ref mke :: .ref mma :: .ref mth :: .ref mtr :: .int 0 :: .int 0 :: []))), (mrf, .inl (cI, 8, .inl (fun _ => 0))), (mhe, .inl (cI, 8, .inl (fun _ => 0)))] H := by rw [hH]; exact hP
  replace hS : va_S (va_A [(m0, .inr (8, (.int 0 :: .int 20 :: .int 0 :: .int 0 :: .int 0 :: .int 60 :: .int 0 :: .int 3 :: .int 1 :: .int (-1) :: .ref mrf :: .ref mki :: .ref mpa :: .ref mta :: .ref mla :: .ref msl :: .ref mco :: .ref mhe :: .ref mso :: .ref msi :: .ref msh :: .ref mce :: .ref mca :: .ref mwo :: .ref mnu :: .ref mte :: .int 0 :: .int 0 :: .int 0 :: .int 0 :: .int 0 :: .ref mwa :: .ref mke :: .ref mma :: .ref mth :: .ref mtr :: .int 0 :: .int 0 :: []))), (mrf, .inl (cI, 8, .inl (fun _ => 0))), (mhe, .inl (cI, 8, .inl (fun _ => 0)))] s.heap.size) s.heap H locs := by rw [hH, hL]; exact hS
  clear hH hL
  refine lv_aload_n hx hb dX8_says_0 rfl (lv_at hl 0 rfl) ?_
  refine lv_iload_n hx hb dX8_says_1 rfl (lv_at hl 1 rfl) ?_
  refine zc_V (As := [.int s_]) (rest := []) ⟨hx, hb, hml, hown, hts⟩ (c_M_isShelf l D cI cJ cZ cP cS m0 mrf mki mpa mta mla msl mco mhe mso msi msh mce mca mwo mnu mte mwa mke mma mth mtr (s_) ) (cwV 1 hts gX8_says_X8_isShelf rfl rfl rfl (by decide +kernel) ⟨Nat.le_of_ble_eq_true rfl, Nat.le_of_ble_eq_true rfl⟩) hK hN (hZ.kept hS) hP [0] rfl (va_recv hK hP (ci := 8) (q0 := 0) rfl rfl) rfl hl.1 rfl (Nat.le_of_ble_eq_true rfl) dX8_says_2 ⟨Nat.le_of_ble_eq_true rfl, Nat.le_of_ble_eq_true rfl⟩ (fun r_1 hr_1 => ?_)
  rcases hr_1 with ⟨rfl, g_2⟩ | ⟨rfl, g_3, g_4⟩ | ⟨rfl, g_5, g_6⟩
  · refine lv_if_eq (tgt := 18) hx hb dX8_says_5 (by decide) (fun c_7 => ?_) (fun c_7 => ?_)
    · refine lv_aload_n hx hb dX8_says_18 rfl (lv_at hl 0 rfl) ?_
      refine lv_iconst (v := (-1)) hx hb dX8_says_19 (by decide) ?_
      skip
      refine zw_V (As := [.int (-1)]) (rest := []) (wr := []) ⟨hx, hb, hml, hown, hts⟩ (c_M_no_1 l D cI cJ cZ cP cS m0 mrf mki mpa mta mla msl mco mhe mso msi msh mce mca mwo mnu mte mwa mke mma mth mtr  H.size) (cwV 1 hts gX8_says_X8_no rfl rfl rfl (by decide +kernel) ⟨Nat.le_of_ble_eq_true rfl, Nat.le_of_ble_eq_true rfl⟩) hK hN (hZ.kept hS) hP hD hS hA [0, 1] [] rfl rfl (by decide) (by decide) (by decide) (va_recv hK hP (ci := 8) (q0 := 0) rfl rfl) rfl hl.1 rfl (Nat.le_of_ble_eq_true rfl) dX8_says_20 ⟨Nat.le_of_ble_eq_true rfl, Nat.le_of_ble_eq_true rfl⟩ (fun r_8 u_9 H locs hr_8 hP hD hS => ?_)
      obtain rfl := hr_8
      exact W.iret (v := (-1)) hx hb hr (fun t ht hW => ⟨⟨(-1), (), rfl, Or.inl (⟨rfl, (by first | omega | decide)⟩), zP_nil, zD_nil⟩, hS.F ht⟩) hS.2.2 dX8_says_23
    · exact absurd c_7 (by decide)
  · refine lv_if_eq (tgt := 18) hx hb dX8_says_5 (by decide) (fun c_10 => ?_) (fun c_10 => ?_)
    · refine lv_aload_n hx hb dX8_says_18 rfl (lv_at hl 0 rfl) ?_
      refine lv_iconst (v := (-1)) hx hb dX8_says_19 (by decide) ?_
      skip
      refine zw_V (As := [.int (-1)]) (rest := []) (wr := []) ⟨hx, hb, hml, hown, hts⟩ (c_M_no_1 l D cI cJ cZ cP cS m0 mrf mki mpa mta mla msl mco mhe mso msi msh mce mca mwo mnu mte mwa mke mma mth mtr  H.size) (cwV 1 hts gX8_says_X8_no rfl rfl rfl (by decide +kernel) ⟨Nat.le_of_ble_eq_true rfl, Nat.le_of_ble_eq_true rfl⟩) hK hN (hZ.kept hS) hP hD hS hA [0, 1] [] rfl rfl (by decide) (by decide) (by decide) (va_recv hK hP (ci := 8) (q0 := 0) rfl rfl) rfl hl.1 rfl (Nat.le_of_ble_eq_true rfl) dX8_says_20 ⟨Nat.le_of_ble_eq_true rfl, Nat.le_of_ble_eq_true rfl⟩ (fun r_11 u_12 H locs hr_11 hP hD hS => ?_)
      obtain rfl := hr_11
      exact W.iret (v := (-1)) hx hb hr (fun t ht hW => ⟨⟨(-1), (), rfl, Or.inr (Or.inl (⟨rfl, (by first | omega | decide), (by first | omega | decide)⟩)), zP_nil, zD_nil⟩, hS.F ht⟩) hS.2.2 dX8_says_23
    · exact absurd c_10 (by decide)
  · refine lv_if_eq (tgt := 18) hx hb dX8_says_5 (by decide) (fun c_13 => ?_) (fun c_13 => ?_)
    · exact absurd c_13 (by decide)
    · refine lv_iload_n hx hb dX8_says_8 rfl (lv_at hl 2 rfl) ?_
      refine lv_if_lt (tgt := 18) hx hb dX8_says_9 (by decide) (fun c_14 => ?_) (fun c_14 => ?_)
      · have fc_14 : k.toInt < 0 := zf_lt c_14 rfl (by decide)
        refine lv_aload_n hx hb dX8_says_18 rfl (lv_at hl 0 rfl) ?_
        refine lv_iconst (v := (-1)) hx hb dX8_says_19 (by decide) ?_
        skip
        refine zw_V (As := [.int (-1)]) (rest := []) (wr := []) ⟨hx, hb, hml, hown, hts⟩ (c_M_no_1 l D cI cJ cZ cP cS m0 mrf mki mpa mta mla msl mco mhe mso msi msh mce mca mwo mnu mte mwa mke mma mth mtr  H.size) (cwV 1 hts gX8_says_X8_no rfl rfl rfl (by decide +kernel) ⟨Nat.le_of_ble_eq_true rfl, Nat.le_of_ble_eq_true rfl⟩) hK hN (hZ.kept hS) hP hD hS hA [0, 1] [] rfl rfl (by decide) (by decide) (by decide) (va_recv hK hP (ci := 8) (q0 := 0) rfl rfl) rfl hl.1 rfl (Nat.le_of_ble_eq_true rfl) dX8_says_20 ⟨Nat.le_of_ble_eq_true rfl, Nat.le_of_ble_eq_true rfl⟩ (fun r_15 u_16 H locs hr_15 hP hD hS => ?_)
        obtain rfl := hr_15
        exact W.iret (v := (-1)) hx hb hr (fun t ht hW => ⟨⟨(-1), (), rfl, Or.inr (Or.inr (Or.inl (⟨rfl, (by first | omega | decide), (by first | omega | decide), (by first | omega | decide)⟩))), zP_nil, zD_nil⟩, hS.F ht⟩) hS.2.2 dX8_says_23
      · have fc_14 : 0 ≤ k.toInt := zf_nlt c_14 rfl (by decide)
        refine lv_iload_n hx hb dX8_says_12 rfl (lv_at hl 2 rfl) ?_
        refine lv_bipush (v := 6) hx hb dX8_says_13 (by decide) ?_
        refine lv_icmp_le (tgt := 24) hx hb dX8_says_15 (by decide) (fun c_17 => ?_) (fun c_17 => ?_)
        · have fc_17 : k.toInt ≤ 6 := zf_le c_17 rfl (by decide)
          refine lv_aload_n hx hb dX8_says_24 rfl (lv_at hl 0 rfl) ?_
          refine va_get (D := D) (ci := 8) (v := .ref mhe) (C := RX8) (T := TX8) (N := 38) hx hb hts hi_X8_says_8 hown hK hP 0 rfl rfl 17 (by decide) (hts (.fieldLink RX8 47 "TheLiningsInItModel" "held" "[I") (List.mem_of_getElem? (i := 1) rfl)) (fun _ h9 => h9) rfl dX8_says_25 ?_
          refine lv_iload_n hx hb dX8_says_28 rfl (lv_at hl 1 rfl) ?_
          refine va_iald hx hb hK hP 2 0 rfl rfl (zf_in (by omega) (by omega)) dX8_says_29 ?_
          refine lv_topi (fun x_18 ex_18 => ?_)
          obtain rfl : x_18 = 0 := ex_18
          refine lv_iconst (v := 1) hx hb dX8_says_30 (by decide) ?_
          refine lv_icmp_ne (tgt := 41) hx hb dX8_says_31 (by decide) (fun c_19 => ?_) (fun c_19 => ?_)
          · refine lv_aload_n hx hb dX8_says_41 rfl (lv_at hl 0 rfl) ?_
            refine va_get (D := D) (ci := 8) (v := .ref mhe) (C := RX8) (T := TX8) (N := 38) hx hb hts hi_X8_says_8 hown hK hP 0 rfl rfl 17 (by decide) (hts (.fieldLink RX8 47 "TheLiningsInItModel" "held" "[I") (List.mem_of_getElem? (i := 1) rfl)) (fun _ h9 => h9) rfl dX8_says_42 ?_
            refine lv_iload_n hx hb dX8_says_45 rfl (lv_at hl 1 rfl) ?_
            refine va_iald hx hb hK hP 2 0 rfl rfl (zf_in (by omega) (by omega)) dX8_says_46 ?_
            refine lv_topi (fun x_20 ex_20 => ?_)
            obtain rfl : x_20 = 0 := ex_20
            refine lv_if_ne (tgt := 57) hx hb dX8_says_47 (by decide) (fun c_21 => ?_) (fun c_21 => ?_)
            · exact absurd c_21 (by decide)
            · refine lv_aload_n hx hb dX8_says_50 rfl (lv_at hl 0 rfl) ?_
              refine lv_bipush (v := (-3)) hx hb dX8_says_51 (by decide) ?_
              skip
              refine zw_V (As := [.int (-3)]) (rest := []) (wr := []) ⟨hx, hb, hml, hown, hts⟩ (c_M_no_3 l D cI cJ cZ cP cS m0 mrf mki mpa mta mla msl mco mhe mso msi msh mce mca mwo mnu mte mwa mke mma mth mtr  H.size) (cwV 1 hts gX8_says_X8_no rfl rfl rfl (by decide +kernel) ⟨Nat.le_of_ble_eq_true rfl, Nat.le_of_ble_eq_true rfl⟩) hK hN (hZ.kept hS) hP hD hS hA [0, 1] [] rfl rfl (by decide) (by decide) (by decide) (va_recv hK hP (ci := 8) (q0 := 0) rfl rfl) rfl hl.1 rfl (Nat.le_of_ble_eq_true rfl) dX8_says_53 ⟨Nat.le_of_ble_eq_true rfl, Nat.le_of_ble_eq_true rfl⟩ (fun r_22 u_23 H locs hr_22 hP hD hS => ?_)
              obtain rfl := hr_22
              exact W.iret (v := (-3)) hx hb hr (fun t ht hW => ⟨⟨(-3), (), rfl, Or.inr (Or.inr (Or.inr (Or.inl (⟨rfl, (by first | omega | decide), (by first | omega | decide), (by first | omega | decide), (by first | omega | decide)⟩)))), zP_nil, zD_nil⟩, hS.F ht⟩) hS.2.2 dX8_says_56
          · exact absurd c_19 (by decide)
        · have fc_17 : 6 < k.toInt := zf_nle c_17 rfl (by decide)
          refine lv_aload_n hx hb dX8_says_18 rfl (lv_at hl 0 rfl) ?_
          refine lv_iconst (v := (-1)) hx hb dX8_says_19 (by decide) ?_
          skip
          refine zw_V (As := [.int (-1)]) (rest := []) (wr := []) ⟨hx, hb, hml, hown, hts⟩ (c_M_no_1 l D cI cJ cZ cP cS m0 mrf mki mpa mta mla msl mco mhe mso msi msh mce mca mwo mnu mte mwa mke mma mth mtr  H.size) (cwV 1 hts gX8_says_X8_no rfl rfl rfl (by decide +kernel) ⟨Nat.le_of_ble_eq_true rfl, Nat.le_of_ble_eq_true rfl⟩) hK hN (hZ.kept hS) hP hD hS hA [0, 1] [] rfl rfl (by decide) (by decide) (by decide) (va_recv hK hP (ci := 8) (q0 := 0) rfl rfl) rfl hl.1 rfl (Nat.le_of_ble_eq_true rfl) dX8_says_20 ⟨Nat.le_of_ble_eq_true rfl, Nat.le_of_ble_eq_true rfl⟩ (fun r_24 u_25 H locs hr_24 hP hD hS => ?_)
          obtain rfl := hr_24
          exact W.iret (v := (-1)) hx hb hr (fun t ht hW => ⟨⟨(-1), (), rfl, Or.inr (Or.inr (Or.inr (Or.inr (⟨rfl, (by first | omega | decide), (by first | omega | decide), (by first | omega | decide), (by first | omega | decide)⟩)))), zP_nil, zD_nil⟩, hS.F ht⟩) hS.2.2 dX8_says_23
theorem hi_X8_addsPull_8 : ∀ w ∈ u_ws RX8 TX8 38, w ∈ wsX8_addsPull := by decide +kernel
set_option maxHeartbeats 4000000 in
set_option maxRecDepth 100000 in
theorem c_M_addsPull (l : Launch) (D : va_G) (cI cJ cZ cP cS : ClassId) (m0 mrf mki mpa mta mla msl mco mhe mso msi msh mce mca mwo mnu mte mwa mke mma mth mtr : Nat) (ki a_ ta : Int32)  (sz : Nat) : Met l yX8_addsPull wsX8_addsPull ({ frames := 0, cells := 0, slots := 0, locals := 0 }) (va_Pc [.ref m0, .int ki, .int a_, .int ta] (zW D (zKT cI cJ cZ cP cS) [(m0, .inr (8, (.int 0 :: .int 20 :: .int 0 :: .int 0 :: .int 0 :: .int 60 :: .int 0 :: .int 3 :: .int 1 :: .int (-1) :: .ref mrf :: .ref mki :: .ref mpa :: .ref mta :: .ref mla :: .ref msl :: .ref mco :: .ref mhe :: .ref mso :: .ref msi :: .ref msh :: .ref mce :: .ref mca :: .ref mwo :: .ref mnu :: .ref mte :: .int 0 :: .int 0 :: .int 0 :: .int 0 :: .int 0 :: .ref mwa :: .ref mke :: .ref mma :: .ref mth :: .ref mtr :: .int 0 :: .int 0 :: []))), (mki, .inl (cI, 8, .inl (fun _ => 0))), (mpa, .inl (cI, 8, .inl (fun _ => 0))), (mta, .inl (cI, 8, .inl (fun _ => 0)))] sz)) (va_Qi (fun (r : Int32) (_ : Unit) => r = 0) (zB D [(m0, .inr (8, (.int 0 :: .int 20 :: .int 0 :: .int 0 :: .int 0 :: .int 60 :: .int 0 :: .int 3 :: .int 1 :: .int (-1) :: .ref mrf :: .ref mki :: .ref mpa :: .ref mta :: .ref mla :: .ref msl :: .ref mco :: .ref mhe :: .ref mso :: .ref msi :: .ref msh :: .ref mce :: .ref mca :: .ref mwo :: .ref mnu :: .ref mte :: .int 0 :: .int 0 :: .int 0 :: .int 0 :: .int 0 :: .ref mwa :: .ref mke :: .ref mma :: .ref mth :: .ref mtr :: .int 0 :: .int 0 :: []))), (mki, .inl (cI, 8, .inl (fun _ => 0))), (mpa, .inl (cI, 8, .inl (fun _ => 0))), (mta, .inl (cI, 8, .inl (fun _ => 0)))] sz (fun (_ : Unit) => ([] : va_W))) (va_A [(m0, .inr (8, (.int 0 :: .int 20 :: .int 0 :: .int 0 :: .int 0 :: .int 60 :: .int 0 :: .int 3 :: .int 1 :: .int (-1) :: .ref mrf :: .ref mki :: .ref mpa :: .ref mta :: .ref mla :: .ref msl :: .ref mco :: .ref mhe :: .ref mso :: .ref msi :: .ref msh :: .ref mce :: .ref mca :: .ref mwo :: .ref mnu :: .ref mte :: .int 0 :: .int 0 :: .int 0 :: .int 0 :: .int 0 :: .ref mwa :: .ref mke :: .ref mma :: .ref mth :: .ref mtr :: .int 0 :: .int 0 :: []))), (mki, .inl (cI, 8, .inl (fun _ => 0))), (mpa, .inl (cI, 8, .inl (fun _ => 0))), (mta, .inl (cI, 8, .inl (fun _ => 0)))] sz)) 0 0 (va_A [(m0, .inr (8, (.int 0 :: .int 20 :: .int 0 :: .int 0 :: .int 0 :: .int 60 :: .int 0 :: .int 3 :: .int 1 :: .int (-1) :: .ref mrf :: .ref mki :: .ref mpa :: .ref mta :: .ref mla :: .ref msl :: .ref mco :: .ref mhe :: .ref mso :: .ref msi :: .ref msh :: .ref mce :: .ref mca :: .ref mwo :: .ref mnu :: .ref mte :: .int 0 :: .int 0 :: .int 0 :: .int 0 :: .int 0 :: .ref mwa :: .ref mke :: .ref mma :: .ref mth :: .ref mtr :: .int 0 :: .int 0 :: []))), (mki, .inl (cI, 8, .inl (fun _ => 0))), (mpa, .inl (cI, 8, .inl (fun _ => 0))), (mta, .inl (cI, 8, .inl (fun _ => 0)))] sz) := by
  refine Met.ofW (cc := cX8_addsPull) (maxL := 4) (ret := (some .int)) (by decide) rfl ?_
  intro p e s m args below meth c s₁ B hml hv
  obtain ⟨rfl, hsz, hP, hK, hD0, hN, hZ⟩ := hv
  have hx := B.exec
  have hb := B.bytes
  have hr := B.returns
  have hts := atoms_spec (ws := wsX8_addsPull) B.pre
  have hown : s.vm.findClass RX8 = some m.cls := findClass_of_methodNamed B.named
  have hlocks := B.notSynchronized
  subst hsz
  have hD := hD0.self (sz := s.heap.size)
  have hA : ∀ q : Nat, s.heap.size ≤ q → va_A [(m0, .inr (8, (.int 0 :: .int 20 :: .int 0 :: .int 0 :: .int 0 :: .int 60 :: .int 0 :: .int 3 :: .int 1 :: .int (-1) :: .ref mrf :: .ref mki :: .ref mpa :: .ref mta :: .ref mla :: .ref msl :: .ref mco :: .ref mhe :: .ref mso :: .ref msi :: .ref msh :: .ref mce :: .ref mca :: .ref mwo :: .ref mnu :: .ref mte :: .int 0 :: .int 0 :: .int 0 :: .int 0 :: .int 0 :: .ref mwa :: .ref mke :: .ref mma :: .ref mth :: .ref mtr :: .int 0 :: .int 0 :: []))), (mki, .inl (cI, 8, .inl (fun _ => 0))), (mpa, .inl (cI, 8, .inl (fun _ => 0))), (mta, .inl (cI, 8, .inl (fun _ => 0)))] s.heap.size q := fun q h => Or.inr h
  have hS : va_S (va_A [(m0, .inr (8, (.int 0 :: .int 20 :: .int 0 :: .int 0 :: .int 0 :: .int 60 :: .int 0 :: .int 3 :: .int 1 :: .int (-1) :: .ref mrf :: .ref mki :: .ref mpa :: .ref mta :: .ref mla :: .ref msl :: .ref mco :: .ref mhe :: .ref mso :: .ref msi :: .ref msh :: .ref mce :: .ref mca :: .ref mwo :: .ref mnu :: .ref mte :: .int 0 :: .int 0 :: .int 0 :: .int 0 :: .int 0 :: .ref mwa :: .ref mke :: .ref mma :: .ref mth :: .ref mtr :: .int 0 :: .int 0 :: []))), (mki, .inl (cI, 8, .inl (fun _ => 0))), (mpa, .inl (cI, 8, .inl (fun _ => 0))), (mta, .inl (cI, 8, .inl (fun _ => 0)))] s.heap.size) s.heap s.heap [] := va_S.rf
  replace hP : va_P D vwCl _ s.heap := hP
  have hl := lv_entry ([.ref m0, .int ki, .int a_, .int ta]) (n := 4) (Nat.le_of_ble_eq_true rfl)
  rw [lg_entry_eq]
  generalize (lg_sl ([.ref m0, .int ki, .int a_, .int ta]) ++ List.replicate (4 - (lg_sl ([.ref m0, .int ki, .int a_, .int ta])).length) Slot.unset).toArray = ls at hl ⊢
  replace hl : lv_has ls 4 [(0, .ref m0), (1, .int ki), (2, .int a_), (3, .int ta)] := hl
  refine zw_start (fun H locs hH hL => ?_)
  replace hP : va_P D vwCl [(m0, .inr (8, (.int 0 :: .int 20 :: .int 0 :: .int 0 :: .int 0 :: .int 60 :: .int 0 :: .int 3 :: .int 1 :: .int (-1) :: .ref mrf :: .ref mki :: .ref mpa :: .ref mta :: .ref mla :: .ref msl :: .ref mco :: .ref mhe :: .ref mso :: .ref msi :: .ref msh :: .ref mce :: .ref mca :: .ref mwo :: .ref mnu :: .ref mte :: .int 0 :: .int 0 :: .int 0 :: .int 0 :: .int 0 :: .ref mwa :: .ref mke :: .ref mma :: .ref mth :: .ref mtr :: .int 0 :: .int 0 :: []))), (mki, .inl (cI, 8, .inl (fun _ => 0))), (mpa, .inl (cI, 8, .inl (fun _ => 0))), (mta, .inl (cI, 8, .inl (fun _ => 0)))] H := by rw [hH]; exact hP
  replace hS : va_S (va_A [(m0, .inr (8, (.int 0 :: .int 20 :: .int 0 :: .int 0 :: .int 0 :: .int 60 :: .int 0 :: .int 3 :: .int 1 :: .int (-1) :: .ref mrf :: .ref mki :: .ref mpa :: .ref mta :: .ref mla :: .ref msl :: .ref mco :: .ref mhe :: .ref mso :: .ref msi :: .ref msh :: .ref mce :: .ref mca :: .ref mwo :: .ref mnu :: .ref mte :: .int 0 :: .int 0 :: .int 0 :: .int 0 :: .int 0 :: .ref mwa :: .ref mke :: .ref mma :: .ref mth :: .ref mtr :: .int 0 :: .int 0 :: []))), (mki, .inl (cI, 8, .inl (fun _ => 0))), (mpa, .inl (cI, 8, .inl (fun _ => 0))), (mta, .inl (cI, 8, .inl (fun _ => 0)))] s.heap.size) s.heap H locs := by rw [hH, hL]; exact hS
  clear hH hL
  refine lv_aload_n hx hb dX8_addsPull_0 rfl (lv_at hl 0 rfl) ?_
  refine va_get (D := D) (ci := 8) (v := .ref mki) (C := RX8) (T := TX8) (N := 38) hx hb hts hi_X8_addsPull_8 hown hK hP 0 rfl rfl 11 (by decide) (hts (.fieldLink RX8 29 "TheLiningsInItModel" "kind" "[I") (List.mem_of_getElem? (i := 1) rfl)) (fun _ h9 => h9) rfl dX8_addsPull_1 ?_
  refine lv_aload_n hx hb dX8_addsPull_4 rfl (lv_at hl 0 rfl) ?_
  refine va_get (D := D) (ci := 8) (v := .int 0) (C := RX8) (T := TX8) (N := 38) hx hb hts hi_X8_addsPull_8 hown hK hP 0 rfl rfl 0 (by decide) (hts (.fieldLink RX8 90 "TheLiningsInItModel" "pulls" "I") (List.mem_of_getElem? (i := 2) rfl)) (fun _ h9 => h9) rfl dX8_addsPull_5 ?_
  refine lv_iload_n hx hb dX8_addsPull_8 rfl (lv_at hl 1 rfl) ?_
  refine va_iast hx hb hK hP hD hS 1 0 rfl rfl (zf_in (by decide) (by decide)) dX8_addsPull_9 (fun H locs hP hD hS => ?_)
  refine lv_aload_n hx hb dX8_addsPull_10 rfl (lv_at hl 0 rfl) ?_
  refine va_get (D := D) (ci := 8) (v := .ref mpa) (C := RX8) (T := TX8) (N := 38) hx hb hts hi_X8_addsPull_8 hown hK hP 0 rfl rfl 12 (by decide) (hts (.fieldLink RX8 32 "TheLiningsInItModel" "part" "[I") (List.mem_of_getElem? (i := 3) rfl)) (fun _ h9 => h9) rfl dX8_addsPull_11 ?_
  refine lv_aload_n hx hb dX8_addsPull_14 rfl (lv_at hl 0 rfl) ?_
  refine va_get (D := D) (ci := 8) (v := .int 0) (C := RX8) (T := TX8) (N := 38) hx hb hts hi_X8_addsPull_8 hown hK hP 0 rfl rfl 0 (by decide) (hts (.fieldLink RX8 90 "TheLiningsInItModel" "pulls" "I") (List.mem_of_getElem? (i := 2) rfl)) (fun _ h9 => h9) rfl dX8_addsPull_15 ?_
  refine lv_iload_n hx hb dX8_addsPull_18 rfl (lv_at hl 2 rfl) ?_
  refine va_iast hx hb hK hP hD hS 2 0 rfl rfl (zf_in (by decide) (by decide)) dX8_addsPull_19 (fun H locs hP hD hS => ?_)
  refine lv_aload_n hx hb dX8_addsPull_20 rfl (lv_at hl 0 rfl) ?_
  refine va_get (D := D) (ci := 8) (v := .ref mta) (C := RX8) (T := TX8) (N := 38) hx hb hts hi_X8_addsPull_8 hown hK hP 0 rfl rfl 13 (by decide) (hts (.fieldLink RX8 35 "TheLiningsInItModel" "takes" "[I") (List.mem_of_getElem? (i := 4) rfl)) (fun _ h9 => h9) rfl dX8_addsPull_21 ?_
  refine lv_aload_n hx hb dX8_addsPull_24 rfl (lv_at hl 0 rfl) ?_
  refine va_get (D := D) (ci := 8) (v := .int 0) (C := RX8) (T := TX8) (N := 38) hx hb hts hi_X8_addsPull_8 hown hK hP 0 rfl rfl 0 (by decide) (hts (.fieldLink RX8 90 "TheLiningsInItModel" "pulls" "I") (List.mem_of_getElem? (i := 2) rfl)) (fun _ h9 => h9) rfl dX8_addsPull_25 ?_
  refine lv_iload_n hx hb dX8_addsPull_28 rfl (lv_at hl 3 rfl) ?_
  refine va_iast hx hb hK hP hD hS 3 0 rfl rfl (zf_in (by decide) (by decide)) dX8_addsPull_29 (fun H locs hP hD hS => ?_)
  refine lv_aload_n hx hb dX8_addsPull_30 rfl (lv_at hl 0 rfl) ?_
  refine lv_dup hx hb dX8_addsPull_31 rfl ?_
  refine va_get (D := D) (ci := 8) (v := .int 0) (C := RX8) (T := TX8) (N := 38) hx hb hts hi_X8_addsPull_8 hown hK hP 0 rfl rfl 0 (by decide) (hts (.fieldLink RX8 90 "TheLiningsInItModel" "pulls" "I") (List.mem_of_getElem? (i := 2) rfl)) (fun _ h9 => h9) rfl dX8_addsPull_32 ?_
  refine lv_dup_x1 hx hb dX8_addsPull_35 rfl rfl ?_
  refine lv_iconst (v := 1) hx hb dX8_addsPull_36 (by decide) ?_
  refine lv_iadd hx hb dX8_addsPull_37 ?_
  refine lv_topi (fun y_1 ey_1 => ?_)
  obtain rfl : y_1 = 1 := ey_1.trans (by decide)
  refine va_put (D := D) (ci := 8) (v := .int 1) (ty := .int) (C := RX8) (T := TX8) (N := 38) hx hb hts hi_X8_addsPull_8 tyX8 tyX8_ok nmX8 hown hK hP hD hS 0 rfl rfl 0 (by decide) (hts (.fieldLink RX8 90 "TheLiningsInItModel" "pulls" "I") (List.mem_of_getElem? (i := 2) rfl)) (fun _ h9 => h9) rfl (by decide +kernel) rfl rfl (Nat.le_of_ble_eq_true rfl) dX8_addsPull_38 (fun H locs hP hD hS => ?_)
  exact W.iret (v := 0) hx hb hr (fun t ht hW => ⟨⟨0, (), rfl, rfl, zP_nil, zD_nil⟩, hS.F ht⟩) hS.2.2 dX8_addsPull_41
theorem hi_X8_pull_8 : ∀ w ∈ u_ws RX8 TX8 38, w ∈ wsX8_pull := by decide +kernel
set_option maxHeartbeats 4000000 in
set_option maxRecDepth 100000 in
theorem c_M_pull (l : Launch) (D : va_G) (cI cJ cZ cP cS : ClassId) (m0 mrf mki mpa mta mla msl mco mhe mso msi msh mce mca mwo mnu mte mwa mke mma mth mtr : Nat) (ki a_ ta : Int32)  (sz : Nat) : Met l yX8_pull wsX8_pull ({ frames := 1, cells := 0, slots := 0, locals := 23 }) (va_Pc [.ref m0, .int ki, .int a_, .int ta] (zW D (zKT cI cJ cZ cP cS) [(m0, .inr (8, (.int 0 :: .int 20 :: .int 0 :: .int 0 :: .int 0 :: .int 60 :: .int 0 :: .int 3 :: .int 1 :: .int (-1) :: .ref mrf :: .ref mki :: .ref mpa :: .ref mta :: .ref mla :: .ref msl :: .ref mco :: .ref mhe :: .ref mso :: .ref msi :: .ref msh :: .ref mce :: .ref mca :: .ref mwo :: .ref mnu :: .ref mte :: .int 0 :: .int 0 :: .int 0 :: .int 0 :: .int 0 :: .ref mwa :: .ref mke :: .ref mma :: .ref mth :: .ref mtr :: .int 0 :: .int 0 :: []))), (mrf, .inl (cI, 8, .inl (fun _ => 0))), (mki, .inl (cI, 8, .inl (fun _ => 0))), (mpa, .inl (cI, 8, .inl (fun _ => 0))), (mta, .inl (cI, 8, .inl (fun _ => 0)))] sz)) (va_Qi (fun (r : Int32) (_ : Unit) => (r = (-1) ∧ ki.toInt < 0) ∨ (r = (-6) ∧ 0 ≤ ki.toInt ∧ ki.toInt ≤ 6 ∧ a_.toInt < 0) ∨ (r = (-6) ∧ 0 ≤ ki.toInt ∧ ki.toInt ≤ 6 ∧ 0 ≤ a_.toInt ∧ 9 < a_.toInt) ∨ (r = (-6) ∧ 0 ≤ ki.toInt ∧ ki.toInt ≤ 6 ∧ 0 ≤ a_.toInt ∧ a_.toInt ≤ 9 ∧ ta.toInt < 1) ∨ (r = 0 ∧ 0 ≤ ki.toInt ∧ ki.toInt ≤ 6 ∧ 0 ≤ a_.toInt ∧ a_.toInt ≤ 9 ∧ 1 ≤ ta.toInt ∧ ta.toInt ≤ 60) ∨ (r = (-6) ∧ 0 ≤ ki.toInt ∧ ki.toInt ≤ 6 ∧ 0 ≤ a_.toInt ∧ a_.toInt ≤ 9 ∧ 1 ≤ ta.toInt ∧ 60 < ta.toInt) ∨ (r = (-1) ∧ 0 ≤ ki.toInt ∧ 6 < ki.toInt)) (zB D [(m0, .inr (8, (.int 0 :: .int 20 :: .int 0 :: .int 0 :: .int 0 :: .int 60 :: .int 0 :: .int 3 :: .int 1 :: .int (-1) :: .ref mrf :: .ref mki :: .ref mpa :: .ref mta :: .ref mla :: .ref msl :: .ref mco :: .ref mhe :: .ref mso :: .ref msi :: .ref msh :: .ref mce :: .ref mca :: .ref mwo :: .ref mnu :: .ref mte :: .int 0 :: .int 0 :: .int 0 :: .int 0 :: .int 0 :: .ref mwa :: .ref mke :: .ref mma :: .ref mth :: .ref mtr :: .int 0 :: .int 0 :: []))), (mrf, .inl (cI, 8, .inl (fun _ => 0))), (mki, .inl (cI, 8, .inl (fun _ => 0))), (mpa, .inl (cI, 8, .inl (fun _ => 0))), (mta, .inl (cI, 8, .inl (fun _ => 0)))] sz (fun (_ : Unit) => ([] : va_W))) (va_A [(m0, .inr (8, (.int 0 :: .int 20 :: .int 0 :: .int 0 :: .int 0 :: .int 60 :: .int 0 :: .int 3 :: .int 1 :: .int (-1) :: .ref mrf :: .ref mki :: .ref mpa :: .ref mta :: .ref mla :: .ref msl :: .ref mco :: .ref mhe :: .ref mso :: .ref msi :: .ref msh :: .ref mce :: .ref mca :: .ref mwo :: .ref mnu :: .ref mte :: .int 0 :: .int 0 :: .int 0 :: .int 0 :: .int 0 :: .ref mwa :: .ref mke :: .ref mma :: .ref mth :: .ref mtr :: .int 0 :: .int 0 :: []))), (mrf, .inl (cI, 8, .inl (fun _ => 0))), (mki, .inl (cI, 8, .inl (fun _ => 0))), (mpa, .inl (cI, 8, .inl (fun _ => 0))), (mta, .inl (cI, 8, .inl (fun _ => 0)))] sz)) 0 0 (va_A [(m0, .inr (8, (.int 0 :: .int 20 :: .int 0 :: .int 0 :: .int 0 :: .int 60 :: .int 0 :: .int 3 :: .int 1 :: .int (-1) :: .ref mrf :: .ref mki :: .ref mpa :: .ref mta :: .ref mla :: .ref msl :: .ref mco :: .ref mhe :: .ref mso :: .ref msi :: .ref msh :: .ref mce :: .ref mca :: .ref mwo :: .ref mnu :: .ref mte :: .int 0 :: .int 0 :: .int 0 :: .int 0 :: .int 0 :: .ref mwa :: .ref mke :: .ref mma :: .ref mth :: .ref mtr :: .int 0 :: .int 0 :: []))), (mrf, .inl (cI, 8, .inl (fun _ => 0))), (mki, .inl (cI, 8, .inl (fun _ => 0))), (mpa, .inl (cI, 8, .inl (fun _ => 0))), (mta, .inl (cI, 8, .inl (fun _ => 0)))] sz) := by
  refine Met.ofW (cc := cX8_pull) (maxL := 4) (ret := (some .int)) (by decide) rfl ?_
  intro p e s m args below meth c s₁ B hml hv
  obtain ⟨rfl, hsz, hP, hK, hD0, hN, hZ⟩ := hv
  have hx := B.exec
  have hb := B.bytes
  have hr := B.returns
  have hts := atoms_spec (ws := wsX8_pull) B.pre
  have hown : s.vm.findClass RX8 = some m.cls := findClass_of_methodNamed B.named
  have hlocks := B.notSynchronized
  subst hsz
  have hD := hD0.self (sz := s.heap.size)
  have hA : ∀ q : Nat, s.heap.size ≤ q → va_A [(m0, .inr (8, (.int 0 :: .int 20 :: .int 0 :: .int 0 :: .int 0 :: .int 60 :: .int 0 :: .int 3 :: .int 1 :: .int (-1) :: .ref mrf :: .ref mki :: .ref mpa :: .ref mta :: .ref mla :: .ref msl :: .ref mco :: .ref mhe :: .ref mso :: .ref msi :: .ref msh :: .ref mce :: .ref mca :: .ref mwo :: .ref mnu :: .ref mte :: .int 0 :: .int 0 :: .int 0 :: .int 0 :: .int 0 :: .ref mwa :: .ref mke :: .ref mma :: .ref mth :: .ref mtr :: .int 0 :: .int 0 :: []))), (mrf, .inl (cI, 8, .inl (fun _ => 0))), (mki, .inl (cI, 8, .inl (fun _ => 0))), (mpa, .inl (cI, 8, .inl (fun _ => 0))), (mta, .inl (cI, 8, .inl (fun _ => 0)))] s.heap.size q := fun q h => Or.inr h
  have hS : va_S (va_A [(m0, .inr (8, (.int 0 :: .int 20 :: .int 0 :: .int 0 :: .int 0 :: .int 60 :: .int 0 :: .int 3 :: .int 1 :: .int (-1) :: .ref mrf :: .ref mki :: .ref mpa :: .ref mta :: .ref mla :: .ref msl :: .ref mco :: .ref mhe :: .ref mso :: .ref msi :: .ref msh :: .ref mce :: .ref mca :: .ref mwo :: .ref mnu :: .ref mte :: .int 0 :: .int 0 :: .int 0 :: .int 0 :: .int 0 :: .ref mwa :: .ref mke :: .ref mma :: .ref mth :: .ref mtr :: .int 0 :: .int 0 :: []))), (mrf, .inl (cI, 8, .inl (fun _ => 0))), (mki, .inl (cI, 8, .inl (fun _ => 0))), (mpa, .inl (cI, 8, .inl (fun _ => 0))), (mta, .inl (cI, 8, .inl (fun _ => 0)))] s.heap.size) s.heap s.heap [] := va_S.rf
  replace hP : va_P D vwCl _ s.heap := hP
  have hl := lv_entry ([.ref m0, .int ki, .int a_, .int ta]) (n := 4) (Nat.le_of_ble_eq_true rfl)
  rw [lg_entry_eq]
  generalize (lg_sl ([.ref m0, .int ki, .int a_, .int ta]) ++ List.replicate (4 - (lg_sl ([.ref m0, .int ki, .int a_, .int ta])).length) Slot.unset).toArray = ls at hl ⊢
  replace hl : lv_has ls 4 [(0, .ref m0), (1, .int ki), (2, .int a_), (3, .int ta)] := hl
  refine zw_start (fun H locs hH hL => ?_)
  replace hP : va_P D vwCl [(m0, .inr (8, (.int 0 :: .int 20 :: .int 0 :: .int 0 :: .int 0 :: .int 60 :: .int 0 :: .int 3 :: .int 1 :: .int (-1) :: .ref mrf :: .ref mki :: .ref mpa :: .ref mta :: .ref mla :: .ref msl :: .ref mco :: .ref mhe :: .ref mso :: .ref msi :: .ref msh :: .ref mce :: .ref mca :: .ref mwo :: .ref mnu :: .ref mte :: .int 0 :: .int 0 :: .int 0 :: .int 0 :: .int 0 :: .ref mwa :: .ref mke :: .ref mma :: .ref mth :: .ref mtr :: .int 0 :: .int 0 :: []))), (mrf, .inl (cI, 8, .inl (fun _ => 0))), (mki, .inl (cI, 8, .inl (fun _ => 0))), (mpa, .inl (cI, 8, .inl (fun _ => 0))), (mta, .inl (cI, 8, .inl (fun _ => 0)))] H := by rw [hH]; exact hP
  replace hS : va_S (va_A [(m0, .inr (8, (.int 0 :: .int 20 :: .int 0 :: .int 0 :: .int 0 :: .int 60 :: .int 0 :: .int 3 :: .int 1 :: .int (-1) :: .ref mrf :: .ref mki :: .ref mpa :: .ref mta :: .ref mla :: .ref msl :: .ref mco :: .ref mhe :: .ref mso :: .ref msi :: .ref msh :: .ref mce :: .ref mca :: .ref mwo :: .ref mnu :: .ref mte :: .int 0 :: .int 0 :: .int 0 :: .int 0 :: .int 0 :: .ref mwa :: .ref mke :: .ref mma :: .ref mth :: .ref mtr :: .int 0 :: .int 0 :: []))), (mrf, .inl (cI, 8, .inl (fun _ => 0))), (mki, .inl (cI, 8, .inl (fun _ => 0))), (mpa, .inl (cI, 8, .inl (fun _ => 0))), (mta, .inl (cI, 8, .inl (fun _ => 0)))] s.heap.size) s.heap H locs := by rw [hH, hL]; exact hS
  clear hH hL
  refine lv_iload_n hx hb dX8_pull_0 rfl (lv_at hl 1 rfl) ?_
  refine lv_if_lt (tgt := 10) hx hb dX8_pull_1 (by decide) (fun c_1 => ?_) (fun c_1 => ?_)
  · have fc_1 : ki.toInt < 0 := zf_lt c_1 rfl (by decide)
    refine lv_aload_n hx hb dX8_pull_10 rfl (lv_at hl 0 rfl) ?_
    refine lv_iconst (v := (-1)) hx hb dX8_pull_11 (by decide) ?_
    skip
    refine zw_V (As := [.int (-1)]) (rest := []) (wr := []) ⟨hx, hb, hml, hown, hts⟩ (c_M_no_1 l D cI cJ cZ cP cS m0 mrf mki mpa mta mla msl mco mhe mso msi msh mce mca mwo mnu mte mwa mke mma mth mtr  H.size) (cwV 1 hts gX8_pull_X8_no rfl rfl rfl (by decide +kernel) ⟨Nat.le_of_ble_eq_true rfl, Nat.le_of_ble_eq_true rfl⟩) hK hN (hZ.kept hS) hP hD hS hA [0, 1] [] rfl rfl (by decide) (by decide) (by decide) (va_recv hK hP (ci := 8) (q0 := 0) rfl rfl) rfl hl.1 rfl (Nat.le_of_ble_eq_true rfl) dX8_pull_12 ⟨Nat.le_of_ble_eq_true rfl, Nat.le_of_ble_eq_true rfl⟩ (fun r_2 u_3 H locs hr_2 hP hD hS => ?_)
    obtain rfl := hr_2
    exact W.iret (v := (-1)) hx hb hr (fun t ht hW => ⟨⟨(-1), (), rfl, Or.inl (⟨rfl, (by first | omega | decide)⟩), zP_nil, zD_nil⟩, hS.F ht⟩) hS.2.2 dX8_pull_15
  · have fc_1 : 0 ≤ ki.toInt := zf_nlt c_1 rfl (by decide)
    refine lv_iload_n hx hb dX8_pull_4 rfl (lv_at hl 1 rfl) ?_
    refine lv_bipush (v := 6) hx hb dX8_pull_5 (by decide) ?_
    refine lv_icmp_le (tgt := 16) hx hb dX8_pull_7 (by decide) (fun c_4 => ?_) (fun c_4 => ?_)
    · have fc_4 : ki.toInt ≤ 6 := zf_le c_4 rfl (by decide)
      refine lv_iload_n hx hb dX8_pull_16 rfl (lv_at hl 2 rfl) ?_
      refine lv_if_lt (tgt := 37) hx hb dX8_pull_17 (by decide) (fun c_5 => ?_) (fun c_5 => ?_)
      · have fc_5 : a_.toInt < 0 := zf_lt c_5 rfl (by decide)
        refine lv_aload_n hx hb dX8_pull_37 rfl (lv_at hl 0 rfl) ?_
        refine lv_bipush (v := (-6)) hx hb dX8_pull_38 (by decide) ?_
        skip
        refine zw_V (As := [.int (-6)]) (rest := []) (wr := []) ⟨hx, hb, hml, hown, hts⟩ (c_M_no_6 l D cI cJ cZ cP cS m0 mrf mki mpa mta mla msl mco mhe mso msi msh mce mca mwo mnu mte mwa mke mma mth mtr  H.size) (cwV 1 hts gX8_pull_X8_no rfl rfl rfl (by decide +kernel) ⟨Nat.le_of_ble_eq_true rfl, Nat.le_of_ble_eq_true rfl⟩) hK hN (hZ.kept hS) hP hD hS hA [0, 1] [] rfl rfl (by decide) (by decide) (by decide) (va_recv hK hP (ci := 8) (q0 := 0) rfl rfl) rfl hl.1 rfl (Nat.le_of_ble_eq_true rfl) dX8_pull_40 ⟨Nat.le_of_ble_eq_true rfl, Nat.le_of_ble_eq_true rfl⟩ (fun r_6 u_7 H locs hr_6 hP hD hS => ?_)
        obtain rfl := hr_6
        exact W.iret (v := (-6)) hx hb hr (fun t ht hW => ⟨⟨(-6), (), rfl, Or.inr (Or.inl (⟨rfl, (by first | omega | decide), (by first | omega | decide), (by first | omega | decide)⟩)), zP_nil, zD_nil⟩, hS.F ht⟩) hS.2.2 dX8_pull_43
      · have fc_5 : 0 ≤ a_.toInt := zf_nlt c_5 rfl (by decide)
        refine lv_iload_n hx hb dX8_pull_20 rfl (lv_at hl 2 rfl) ?_
        refine lv_bipush (v := 9) hx hb dX8_pull_21 (by decide) ?_
        refine lv_icmp_gt (tgt := 37) hx hb dX8_pull_23 (by decide) (fun c_8 => ?_) (fun c_8 => ?_)
        · have fc_8 : 9 < a_.toInt := zf_lt c_8 (by decide) rfl
          refine lv_aload_n hx hb dX8_pull_37 rfl (lv_at hl 0 rfl) ?_
          refine lv_bipush (v := (-6)) hx hb dX8_pull_38 (by decide) ?_
          skip
          refine zw_V (As := [.int (-6)]) (rest := []) (wr := []) ⟨hx, hb, hml, hown, hts⟩ (c_M_no_6 l D cI cJ cZ cP cS m0 mrf mki mpa mta mla msl mco mhe mso msi msh mce mca mwo mnu mte mwa mke mma mth mtr  H.size) (cwV 1 hts gX8_pull_X8_no rfl rfl rfl (by decide +kernel) ⟨Nat.le_of_ble_eq_true rfl, Nat.le_of_ble_eq_true rfl⟩) hK hN (hZ.kept hS) hP hD hS hA [0, 1] [] rfl rfl (by decide) (by decide) (by decide) (va_recv hK hP (ci := 8) (q0 := 0) rfl rfl) rfl hl.1 rfl (Nat.le_of_ble_eq_true rfl) dX8_pull_40 ⟨Nat.le_of_ble_eq_true rfl, Nat.le_of_ble_eq_true rfl⟩ (fun r_9 u_10 H locs hr_9 hP hD hS => ?_)
          obtain rfl := hr_9
          exact W.iret (v := (-6)) hx hb hr (fun t ht hW => ⟨⟨(-6), (), rfl, Or.inr (Or.inr (Or.inl (⟨rfl, (by first | omega | decide), (by first | omega | decide), (by first | omega | decide), (by first | omega | decide)⟩))), zP_nil, zD_nil⟩, hS.F ht⟩) hS.2.2 dX8_pull_43
        · have fc_8 : a_.toInt ≤ 9 := zf_nlt c_8 (by decide) rfl
          refine lv_iload_n hx hb dX8_pull_26 rfl (lv_at hl 3 rfl) ?_
          refine lv_iconst (v := 1) hx hb dX8_pull_27 (by decide) ?_
          refine lv_icmp_lt (tgt := 37) hx hb dX8_pull_28 (by decide) (fun c_11 => ?_) (fun c_11 => ?_)
          · have fc_11 : ta.toInt < 1 := zf_lt c_11 rfl (by decide)
            refine lv_aload_n hx hb dX8_pull_37 rfl (lv_at hl 0 rfl) ?_
            refine lv_bipush (v := (-6)) hx hb dX8_pull_38 (by decide) ?_
            skip
            refine zw_V (As := [.int (-6)]) (rest := []) (wr := []) ⟨hx, hb, hml, hown, hts⟩ (c_M_no_6 l D cI cJ cZ cP cS m0 mrf mki mpa mta mla msl mco mhe mso msi msh mce mca mwo mnu mte mwa mke mma mth mtr  H.size) (cwV 1 hts gX8_pull_X8_no rfl rfl rfl (by decide +kernel) ⟨Nat.le_of_ble_eq_true rfl, Nat.le_of_ble_eq_true rfl⟩) hK hN (hZ.kept hS) hP hD hS hA [0, 1] [] rfl rfl (by decide) (by decide) (by decide) (va_recv hK hP (ci := 8) (q0 := 0) rfl rfl) rfl hl.1 rfl (Nat.le_of_ble_eq_true rfl) dX8_pull_40 ⟨Nat.le_of_ble_eq_true rfl, Nat.le_of_ble_eq_true rfl⟩ (fun r_12 u_13 H locs hr_12 hP hD hS => ?_)
            obtain rfl := hr_12
            exact W.iret (v := (-6)) hx hb hr (fun t ht hW => ⟨⟨(-6), (), rfl, Or.inr (Or.inr (Or.inr (Or.inl (⟨rfl, (by first | omega | decide), (by first | omega | decide), (by first | omega | decide), (by first | omega | decide), (by first | omega | decide)⟩)))), zP_nil, zD_nil⟩, hS.F ht⟩) hS.2.2 dX8_pull_43
          · have fc_11 : 1 ≤ ta.toInt := zf_nlt c_11 rfl (by decide)
            refine lv_iload_n hx hb dX8_pull_31 rfl (lv_at hl 3 rfl) ?_
            refine lv_bipush (v := 60) hx hb dX8_pull_32 (by decide) ?_
            refine lv_icmp_le (tgt := 44) hx hb dX8_pull_34 (by decide) (fun c_14 => ?_) (fun c_14 => ?_)
            · have fc_14 : ta.toInt ≤ 60 := zf_le c_14 rfl (by decide)
              refine lv_aload_n hx hb dX8_pull_44 rfl (lv_at hl 0 rfl) ?_
              refine va_get (D := D) (ci := 8) (v := .int 0) (C := RX8) (T := TX8) (N := 38) hx hb hts hi_X8_pull_8 hown hK hP 0 rfl rfl 0 (by decide) (hts (.fieldLink RX8 90 "TheLiningsInItModel" "pulls" "I") (List.mem_of_getElem? (i := 1) rfl)) (fun _ h9 => h9) rfl dX8_pull_45 ?_
              refine lv_bipush (v := 8) hx hb dX8_pull_48 (by decide) ?_
              refine lv_icmp_ne (tgt := 62) hx hb dX8_pull_50 (by decide) (fun c_15 => ?_) (fun c_15 => ?_)
              · refine lv_aload_n hx hb dX8_pull_62 rfl (lv_at hl 0 rfl) ?_
                refine lv_iload_n hx hb dX8_pull_63 rfl (lv_at hl 1 rfl) ?_
                refine lv_iload_n hx hb dX8_pull_64 rfl (lv_at hl 2 rfl) ?_
                refine lv_iload_n hx hb dX8_pull_65 rfl (lv_at hl 3 rfl) ?_
                skip
                refine zw_V (As := [.int ki, .int a_, .int ta]) (rest := []) (wr := []) ⟨hx, hb, hml, hown, hts⟩ (c_M_addsPull l D cI cJ cZ cP cS m0 mrf mki mpa mta mla msl mco mhe mso msi msh mce mca mwo mnu mte mwa mke mma mth mtr (ki) (a_) (ta)  H.size) (cwV 3 hts gX8_pull_X8_addsPull rfl rfl rfl (by decide +kernel) ⟨Nat.le_of_ble_eq_true rfl, Nat.le_of_ble_eq_true rfl⟩) hK hN (hZ.kept hS) hP hD hS hA [0, 2, 3, 4] [] rfl rfl (by decide) (by decide) (by decide) (va_recv hK hP (ci := 8) (q0 := 0) rfl rfl) rfl hl.1 rfl (Nat.le_of_ble_eq_true rfl) dX8_pull_66 ⟨Nat.le_of_ble_eq_true rfl, Nat.le_of_ble_eq_true rfl⟩ (fun r_16 u_17 H locs hr_16 hP hD hS => ?_)
                obtain rfl := hr_16
                exact W.iret (v := 0) hx hb hr (fun t ht hW => ⟨⟨0, (), rfl, Or.inr (Or.inr (Or.inr (Or.inr (Or.inl (⟨rfl, (by first | omega | decide), (by first | omega | decide), (by first | omega | decide), (by first | omega | decide), (by first | omega | decide), (by first | omega | decide)⟩))))), zP_nil, zD_nil⟩, hS.F ht⟩) hS.2.2 dX8_pull_69
              · exact absurd c_15 (by decide)
            · have fc_14 : 60 < ta.toInt := zf_nle c_14 rfl (by decide)
              refine lv_aload_n hx hb dX8_pull_37 rfl (lv_at hl 0 rfl) ?_
              refine lv_bipush (v := (-6)) hx hb dX8_pull_38 (by decide) ?_
              skip
              refine zw_V (As := [.int (-6)]) (rest := []) (wr := []) ⟨hx, hb, hml, hown, hts⟩ (c_M_no_6 l D cI cJ cZ cP cS m0 mrf mki mpa mta mla msl mco mhe mso msi msh mce mca mwo mnu mte mwa mke mma mth mtr  H.size) (cwV 1 hts gX8_pull_X8_no rfl rfl rfl (by decide +kernel) ⟨Nat.le_of_ble_eq_true rfl, Nat.le_of_ble_eq_true rfl⟩) hK hN (hZ.kept hS) hP hD hS hA [0, 1] [] rfl rfl (by decide) (by decide) (by decide) (va_recv hK hP (ci := 8) (q0 := 0) rfl rfl) rfl hl.1 rfl (Nat.le_of_ble_eq_true rfl) dX8_pull_40 ⟨Nat.le_of_ble_eq_true rfl, Nat.le_of_ble_eq_true rfl⟩ (fun r_18 u_19 H locs hr_18 hP hD hS => ?_)
              obtain rfl := hr_18
              exact W.iret (v := (-6)) hx hb hr (fun t ht hW => ⟨⟨(-6), (), rfl, Or.inr (Or.inr (Or.inr (Or.inr (Or.inr (Or.inl (⟨rfl, (by first | omega | decide), (by first | omega | decide), (by first | omega | decide), (by first | omega | decide), (by first | omega | decide), (by first | omega | decide)⟩)))))), zP_nil, zD_nil⟩, hS.F ht⟩) hS.2.2 dX8_pull_43
    · have fc_4 : 6 < ki.toInt := zf_nle c_4 rfl (by decide)
      refine lv_aload_n hx hb dX8_pull_10 rfl (lv_at hl 0 rfl) ?_
      refine lv_iconst (v := (-1)) hx hb dX8_pull_11 (by decide) ?_
      skip
      refine zw_V (As := [.int (-1)]) (rest := []) (wr := []) ⟨hx, hb, hml, hown, hts⟩ (c_M_no_1 l D cI cJ cZ cP cS m0 mrf mki mpa mta mla msl mco mhe mso msi msh mce mca mwo mnu mte mwa mke mma mth mtr  H.size) (cwV 1 hts gX8_pull_X8_no rfl rfl rfl (by decide +kernel) ⟨Nat.le_of_ble_eq_true rfl, Nat.le_of_ble_eq_true rfl⟩) hK hN (hZ.kept hS) hP hD hS hA [0, 1] [] rfl rfl (by decide) (by decide) (by decide) (va_recv hK hP (ci := 8) (q0 := 0) rfl rfl) rfl hl.1 rfl (Nat.le_of_ble_eq_true rfl) dX8_pull_12 ⟨Nat.le_of_ble_eq_true rfl, Nat.le_of_ble_eq_true rfl⟩ (fun r_20 u_21 H locs hr_20 hP hD hS => ?_)
      obtain rfl := hr_20
      exact W.iret (v := (-1)) hx hb hr (fun t ht hW => ⟨⟨(-1), (), rfl, Or.inr (Or.inr (Or.inr (Or.inr (Or.inr (Or.inr (⟨rfl, (by first | omega | decide), (by first | omega | decide)⟩)))))), zP_nil, zD_nil⟩, hS.F ht⟩) hS.2.2 dX8_pull_15
set_option maxHeartbeats 4000000 in
set_option maxRecDepth 100000 in
theorem c_M_pullOf (l : Launch) (D : va_G) (cI cJ cZ cP cS : ClassId) (m0 mrf mki mpa mta mla msl mco mhe mso msi msh mce mca mwo mnu mte mwa mke mma mth mtr : Nat) (p_ w : Int32)  (sz : Nat) : Met l yX8_pullOf wsX8_pullOf ({ frames := 1, cells := 0, slots := 0, locals := 21 }) (va_Pc [.ref m0, .int p_, .int w] (zW D (zKT cI cJ cZ cP cS) [(m0, .inr (8, (.int 0 :: .int 20 :: .int 0 :: .int 0 :: .int 0 :: .int 60 :: .int 0 :: .int 3 :: .int 1 :: .int (-1) :: .ref mrf :: .ref mki :: .ref mpa :: .ref mta :: .ref mla :: .ref msl :: .ref mco :: .ref mhe :: .ref mso :: .ref msi :: .ref msh :: .ref mce :: .ref mca :: .ref mwo :: .ref mnu :: .ref mte :: .int 0 :: .int 0 :: .int 0 :: .int 0 :: .int 0 :: .ref mwa :: .ref mke :: .ref mma :: .ref mth :: .ref mtr :: .int 0 :: .int 0 :: []))), (mrf, .inl (cI, 8, .inl (fun _ => 0)))] sz)) (va_Qi (fun (r : Int32) (_ : Unit) => (r = (-5) ∧ p_.toInt < 0) ∨ (r = (-5) ∧ 0 ≤ p_.toInt)) (zB D [(m0, .inr (8, (.int 0 :: .int 20 :: .int 0 :: .int 0 :: .int 0 :: .int 60 :: .int 0 :: .int 3 :: .int 1 :: .int (-1) :: .ref mrf :: .ref mki :: .ref mpa :: .ref mta :: .ref mla :: .ref msl :: .ref mco :: .ref mhe :: .ref mso :: .ref msi :: .ref msh :: .ref mce :: .ref mca :: .ref mwo :: .ref mnu :: .ref mte :: .int 0 :: .int 0 :: .int 0 :: .int 0 :: .int 0 :: .ref mwa :: .ref mke :: .ref mma :: .ref mth :: .ref mtr :: .int 0 :: .int 0 :: []))), (mrf, .inl (cI, 8, .inl (fun _ => 0)))] sz (fun (_ : Unit) => ([] : va_W))) (va_A [(m0, .inr (8, (.int 0 :: .int 20 :: .int 0 :: .int 0 :: .int 0 :: .int 60 :: .int 0 :: .int 3 :: .int 1 :: .int (-1) :: .ref mrf :: .ref mki :: .ref mpa :: .ref mta :: .ref mla :: .ref msl :: .ref mco :: .ref mhe :: .ref mso :: .ref msi :: .ref msh :: .ref mce :: .ref mca :: .ref mwo :: .ref mnu :: .ref mte :: .int 0 :: .int 0 :: .int 0 :: .int 0 :: .int 0 :: .ref mwa :: .ref mke :: .ref mma :: .ref mth :: .ref mtr :: .int 0 :: .int 0 :: []))), (mrf, .inl (cI, 8, .inl (fun _ => 0)))] sz)) 0 0 (va_A [(m0, .inr (8, (.int 0 :: .int 20 :: .int 0 :: .int 0 :: .int 0 :: .int 60 :: .int 0 :: .int 3 :: .int 1 :: .int (-1) :: .ref mrf :: .ref mki :: .ref mpa :: .ref mta :: .ref mla :: .ref msl :: .ref mco :: .ref mhe :: .ref mso :: .ref msi :: .ref msh :: .ref mce :: .ref mca :: .ref mwo :: .ref mnu :: .ref mte :: .int 0 :: .int 0 :: .int 0 :: .int 0 :: .int 0 :: .ref mwa :: .ref mke :: .ref mma :: .ref mth :: .ref mtr :: .int 0 :: .int 0 :: []))), (mrf, .inl (cI, 8, .inl (fun _ => 0)))] sz) := by
  refine Met.ofW (cc := cX8_pullOf) (maxL := 3) (ret := (some .int)) (by decide) rfl ?_
  intro p e s m args below meth c s₁ B hml hv
  obtain ⟨rfl, hsz, hP, hK, hD0, hN, hZ⟩ := hv
  have hx := B.exec
  have hb := B.bytes
  have hr := B.returns
  have hts := atoms_spec (ws := wsX8_pullOf) B.pre
  have hown : s.vm.findClass RX8 = some m.cls := findClass_of_methodNamed B.named
  have hlocks := B.notSynchronized
  subst hsz
  have hD := hD0.self (sz := s.heap.size)
  have hA : ∀ q : Nat, s.heap.size ≤ q → va_A [(m0, .inr (8, (.int 0 :: .int 20 :: .int 0 :: .int 0 :: .int 0 :: .int 60 :: .int 0 :: .int 3 :: .int 1 :: .int (-1) :: .ref mrf :: .ref mki :: .ref mpa :: .ref mta :: .ref mla :: .ref msl :: .ref mco :: .ref mhe :: .ref mso :: .ref msi :: .ref msh :: .ref mce :: .ref mca :: .ref mwo :: .ref mnu :: .ref mte :: .int 0 :: .int 0 :: .int 0 :: .int 0 :: .int 0 :: .ref mwa :: .ref mke :: .ref mma :: .ref mth :: .ref mtr :: .int 0 :: .int 0 :: []))), (mrf, .inl (cI, 8, .inl (fun _ => 0)))] s.heap.size q := fun q h => Or.inr h
  have hS : va_S (va_A [(m0, .inr (8, (.int 0 :: .int 20 :: .int 0 :: .int 0 :: .int 0 :: .int 60 :: .int 0 :: .int 3 :: .int 1 :: .int (-1) :: .ref mrf :: .ref mki :: .ref mpa :: .ref mta :: .ref mla :: .ref msl :: .ref mco :: .ref mhe :: .ref mso :: .ref msi :: .ref msh :: .ref mce :: .ref mca :: .ref mwo :: .ref mnu :: .ref mte :: .int 0 :: .int 0 :: .int 0 :: .int 0 :: .int 0 :: .ref mwa :: .ref mke :: .ref mma :: .ref mth :: .ref mtr :: .int 0 :: .int 0 :: []))), (mrf, .inl (cI, 8, .inl (fun _ => 0)))] s.heap.size) s.heap s.heap [] := va_S.rf
  replace hP : va_P D vwCl _ s.heap := hP
  have hl := lv_entry ([.ref m0, .int p_, .int w]) (n := 3) (Nat.le_of_ble_eq_true rfl)
  rw [lg_entry_eq]
  generalize (lg_sl ([.ref m0, .int p_, .int w]) ++ List.replicate (3 - (lg_sl ([.ref m0, .int p_, .int w])).length) Slot.unset).toArray = ls at hl ⊢
  replace hl : lv_has ls 3 [(0, .ref m0), (1, .int p_), (2, .int w)] := hl
  refine zw_start (fun H locs hH hL => ?_)
  replace hP : va_P D vwCl [(m0, .inr (8, (.int 0 :: .int 20 :: .int 0 :: .int 0 :: .int 0 :: .int 60 :: .int 0 :: .int 3 :: .int 1 :: .int (-1) :: .ref mrf :: .ref mki :: .ref mpa :: .ref mta :: .ref mla :: .ref msl :: .ref mco :: .ref mhe :: .ref mso :: .ref msi :: .ref msh :: .ref mce :: .ref mca :: .ref mwo :: .ref mnu :: .ref mte :: .int 0 :: .int 0 :: .int 0 :: .int 0 :: .int 0 :: .ref mwa :: .ref mke :: .ref mma :: .ref mth :: .ref mtr :: .int 0 :: .int 0 :: []))), (mrf, .inl (cI, 8, .inl (fun _ => 0)))] H := by rw [hH]; exact hP
  replace hS : va_S (va_A [(m0, .inr (8, (.int 0 :: .int 20 :: .int 0 :: .int 0 :: .int 0 :: .int 60 :: .int 0 :: .int 3 :: .int 1 :: .int (-1) :: .ref mrf :: .ref mki :: .ref mpa :: .ref mta :: .ref mla :: .ref msl :: .ref mco :: .ref mhe :: .ref mso :: .ref msi :: .ref msh :: .ref mce :: .ref mca :: .ref mwo :: .ref mnu :: .ref mte :: .int 0 :: .int 0 :: .int 0 :: .int 0 :: .int 0 :: .ref mwa :: .ref mke :: .ref mma :: .ref mth :: .ref mtr :: .int 0 :: .int 0 :: []))), (mrf, .inl (cI, 8, .inl (fun _ => 0)))] s.heap.size) s.heap H locs := by rw [hH, hL]; exact hS
  clear hH hL
  refine lv_aload_n hx hb dX8_pullOf_0 rfl (lv_at hl 0 rfl) ?_
  refine lv_iload_n hx hb dX8_pullOf_1 rfl (lv_at hl 1 rfl) ?_
  refine zc_V (As := [.int p_]) (rest := []) ⟨hx, hb, hml, hown, hts⟩ (c_M_isPull l D cI cJ cZ cP cS m0 mrf mki mpa mta mla msl mco mhe mso msi msh mce mca mwo mnu mte mwa mke mma mth mtr (p_) ) (cwV 1 hts gX8_pullOf_X8_isPull rfl rfl rfl (by decide +kernel) ⟨Nat.le_of_ble_eq_true rfl, Nat.le_of_ble_eq_true rfl⟩) hK hN (hZ.kept hS) hP [0] rfl (va_recv hK hP (ci := 8) (q0 := 0) rfl rfl) rfl hl.1 rfl (Nat.le_of_ble_eq_true rfl) dX8_pullOf_2 ⟨Nat.le_of_ble_eq_true rfl, Nat.le_of_ble_eq_true rfl⟩ (fun r_1 hr_1 => ?_)
  rcases hr_1 with ⟨rfl, g_2⟩ | ⟨rfl, g_3⟩
  · refine lv_if_ne (tgt := 15) hx hb dX8_pullOf_5 (by decide) (fun c_4 => ?_) (fun c_4 => ?_)
    · exact absurd c_4 (by decide)
    · refine lv_aload_n hx hb dX8_pullOf_8 rfl (lv_at hl 0 rfl) ?_
      refine lv_bipush (v := (-5)) hx hb dX8_pullOf_9 (by decide) ?_
      skip
      refine zw_V (As := [.int (-5)]) (rest := []) (wr := []) ⟨hx, hb, hml, hown, hts⟩ (c_M_no_5 l D cI cJ cZ cP cS m0 mrf mki mpa mta mla msl mco mhe mso msi msh mce mca mwo mnu mte mwa mke mma mth mtr  H.size) (cwV 1 hts gX8_pullOf_X8_no rfl rfl rfl (by decide +kernel) ⟨Nat.le_of_ble_eq_true rfl, Nat.le_of_ble_eq_true rfl⟩) hK hN (hZ.kept hS) hP hD hS hA [0, 1] [] rfl rfl (by decide) (by decide) (by decide) (va_recv hK hP (ci := 8) (q0 := 0) rfl rfl) rfl hl.1 rfl (Nat.le_of_ble_eq_true rfl) dX8_pullOf_11 ⟨Nat.le_of_ble_eq_true rfl, Nat.le_of_ble_eq_true rfl⟩ (fun r_5 u_6 H locs hr_5 hP hD hS => ?_)
      obtain rfl := hr_5
      exact W.iret (v := (-5)) hx hb hr (fun t ht hW => ⟨⟨(-5), (), rfl, Or.inl (⟨rfl, (by first | omega | decide)⟩), zP_nil, zD_nil⟩, hS.F ht⟩) hS.2.2 dX8_pullOf_14
  · refine lv_if_ne (tgt := 15) hx hb dX8_pullOf_5 (by decide) (fun c_7 => ?_) (fun c_7 => ?_)
    · exact absurd c_7 (by decide)
    · refine lv_aload_n hx hb dX8_pullOf_8 rfl (lv_at hl 0 rfl) ?_
      refine lv_bipush (v := (-5)) hx hb dX8_pullOf_9 (by decide) ?_
      skip
      refine zw_V (As := [.int (-5)]) (rest := []) (wr := []) ⟨hx, hb, hml, hown, hts⟩ (c_M_no_5 l D cI cJ cZ cP cS m0 mrf mki mpa mta mla msl mco mhe mso msi msh mce mca mwo mnu mte mwa mke mma mth mtr  H.size) (cwV 1 hts gX8_pullOf_X8_no rfl rfl rfl (by decide +kernel) ⟨Nat.le_of_ble_eq_true rfl, Nat.le_of_ble_eq_true rfl⟩) hK hN (hZ.kept hS) hP hD hS hA [0, 1] [] rfl rfl (by decide) (by decide) (by decide) (va_recv hK hP (ci := 8) (q0 := 0) rfl rfl) rfl hl.1 rfl (Nat.le_of_ble_eq_true rfl) dX8_pullOf_11 ⟨Nat.le_of_ble_eq_true rfl, Nat.le_of_ble_eq_true rfl⟩ (fun r_8 u_9 H locs hr_8 hP hD hS => ?_)
      obtain rfl := hr_8
      exact W.iret (v := (-5)) hx hb hr (fun t ht hW => ⟨⟨(-5), (), rfl, Or.inr (⟨rfl, (by first | omega | decide)⟩), zP_nil, zD_nil⟩, hS.F ht⟩) hS.2.2 dX8_pullOf_14
theorem hi_X8_sews_8 : ∀ w ∈ u_ws RX8 TX8 38, w ∈ wsX8_sews := by decide +kernel
set_option maxHeartbeats 4000000 in
set_option maxRecDepth 100000 in
theorem c_M_sews (l : Launch) (D : va_G) (cI cJ cZ cP cS : ClassId) (m0 mrf mki mpa mta mla msl mco mhe mso msi msh mce mca mwo mnu mte mwa mke mma mth mtr : Nat) (n : Int32)  (sz : Nat) : Met l yX8_sews wsX8_sews ({ frames := 0, cells := 0, slots := 0, locals := 0 }) (va_Pc [.ref m0, .int n] (zW D (zKT cI cJ cZ cP cS) [(m0, .inr (8, (.int 0 :: .int 20 :: .int 0 :: .int 0 :: .int 0 :: .int 60 :: .int 0 :: .int 3 :: .int 1 :: .int (-1) :: .ref mrf :: .ref mki :: .ref mpa :: .ref mta :: .ref mla :: .ref msl :: .ref mco :: .ref mhe :: .ref mso :: .ref msi :: .ref msh :: .ref mce :: .ref mca :: .ref mwo :: .ref mnu :: .ref mte :: .int 0 :: .int 0 :: .int 0 :: .int 0 :: .int 0 :: .ref mwa :: .ref mke :: .ref mma :: .ref mth :: .ref mtr :: .int 0 :: .int 0 :: []))), (mla, .inl (cI, 40, .inl (fun _ => 0))), (msl, .inl (cI, 40, .inl (fun _ => 0)))] sz)) (va_Qv (fun (_ : Unit) => True) (zB D [(m0, .inr (8, (.int 0 :: .int 20 :: .int 0 :: .int 0 :: .int 0 :: .int 60 :: .int 0 :: .int 3 :: .int 1 :: .int (-1) :: .ref mrf :: .ref mki :: .ref mpa :: .ref mta :: .ref mla :: .ref msl :: .ref mco :: .ref mhe :: .ref mso :: .ref msi :: .ref msh :: .ref mce :: .ref mca :: .ref mwo :: .ref mnu :: .ref mte :: .int 0 :: .int 0 :: .int 0 :: .int 0 :: .int 0 :: .ref mwa :: .ref mke :: .ref mma :: .ref mth :: .ref mtr :: .int 0 :: .int 0 :: []))), (mla, .inl (cI, 40, .inl (fun _ => 0))), (msl, .inl (cI, 40, .inl (fun _ => 0)))] sz (fun (_ : Unit) => ([] : va_W))) (va_A [(m0, .inr (8, (.int 0 :: .int 20 :: .int 0 :: .int 0 :: .int 0 :: .int 60 :: .int 0 :: .int 3 :: .int 1 :: .int (-1) :: .ref mrf :: .ref mki :: .ref mpa :: .ref mta :: .ref mla :: .ref msl :: .ref mco :: .ref mhe :: .ref mso :: .ref msi :: .ref msh :: .ref mce :: .ref mca :: .ref mwo :: .ref mnu :: .ref mte :: .int 0 :: .int 0 :: .int 0 :: .int 0 :: .int 0 :: .ref mwa :: .ref mke :: .ref mma :: .ref mth :: .ref mtr :: .int 0 :: .int 0 :: []))), (mla, .inl (cI, 40, .inl (fun _ => 0))), (msl, .inl (cI, 40, .inl (fun _ => 0)))] sz)) 0 0 (va_A [(m0, .inr (8, (.int 0 :: .int 20 :: .int 0 :: .int 0 :: .int 0 :: .int 60 :: .int 0 :: .int 3 :: .int 1 :: .int (-1) :: .ref mrf :: .ref mki :: .ref mpa :: .ref mta :: .ref mla :: .ref msl :: .ref mco :: .ref mhe :: .ref mso :: .ref msi :: .ref msh :: .ref mce :: .ref mca :: .ref mwo :: .ref mnu :: .ref mte :: .int 0 :: .int 0 :: .int 0 :: .int 0 :: .int 0 :: .ref mwa :: .ref mke :: .ref mma :: .ref mth :: .ref mtr :: .int 0 :: .int 0 :: []))), (mla, .inl (cI, 40, .inl (fun _ => 0))), (msl, .inl (cI, 40, .inl (fun _ => 0)))] sz) := by
  refine Met.ofW (cc := cX8_sews) (maxL := 3) (ret := none) (by decide) rfl ?_
  intro p e s m args below meth c s₁ B hml hv
  obtain ⟨rfl, hsz, hP, hK, hD0, hN, hZ⟩ := hv
  have hx := B.exec
  have hb := B.bytes
  have hr := B.returns
  have hts := atoms_spec (ws := wsX8_sews) B.pre
  have hown : s.vm.findClass RX8 = some m.cls := findClass_of_methodNamed B.named
  have hlocks := B.notSynchronized
  subst hsz
  have hD := hD0.self (sz := s.heap.size)
  have hA : ∀ q : Nat, s.heap.size ≤ q → va_A [(m0, .inr (8, (.int 0 :: .int 20 :: .int 0 :: .int 0 :: .int 0 :: .int 60 :: .int 0 :: .int 3 :: .int 1 :: .int (-1) :: .ref mrf :: .ref mki :: .ref mpa :: .ref mta :: .ref mla :: .ref msl :: .ref mco :: .ref mhe :: .ref mso :: .ref msi :: .ref msh :: .ref mce :: .ref mca :: .ref mwo :: .ref mnu :: .ref mte :: .int 0 :: .int 0 :: .int 0 :: .int 0 :: .int 0 :: .ref mwa :: .ref mke :: .ref mma :: .ref mth :: .ref mtr :: .int 0 :: .int 0 :: []))), (mla, .inl (cI, 40, .inl (fun _ => 0))), (msl, .inl (cI, 40, .inl (fun _ => 0)))] s.heap.size q := fun q h => Or.inr h
  have hS : va_S (va_A [(m0, .inr (8, (.int 0 :: .int 20 :: .int 0 :: .int 0 :: .int 0 :: .int 60 :: .int 0 :: .int 3 :: .int 1 :: .int (-1) :: .ref mrf :: .ref mki :: .ref mpa :: .ref mta :: .ref mla :: .ref msl :: .ref mco :: .ref mhe :: .ref mso :: .ref msi :: .ref msh :: .ref mce :: .ref mca :: .ref mwo :: .ref mnu :: .ref mte :: .int 0 :: .int 0 :: .int 0 :: .int 0 :: .int 0 :: .ref mwa :: .ref mke :: .ref mma :: .ref mth :: .ref mtr :: .int 0 :: .int 0 :: []))), (mla, .inl (cI, 40, .inl (fun _ => 0))), (msl, .inl (cI, 40, .inl (fun _ => 0)))] s.heap.size) s.heap s.heap [] := va_S.rf
  replace hP : va_P D vwCl _ s.heap := hP
  have hl := lv_entry ([.ref m0, .int n]) (n := 3) (Nat.le_of_ble_eq_true rfl)
  rw [lg_entry_eq]
  generalize (lg_sl ([.ref m0, .int n]) ++ List.replicate (3 - (lg_sl ([.ref m0, .int n])).length) Slot.unset).toArray = ls at hl ⊢
  replace hl : lv_has ls 3 [(0, .ref m0), (1, .int n)] := hl
  refine zw_start (fun H locs hH hL => ?_)
  replace hP : va_P D vwCl [(m0, .inr (8, (.int 0 :: .int 20 :: .int 0 :: .int 0 :: .int 0 :: .int 60 :: .int 0 :: .int 3 :: .int 1 :: .int (-1) :: .ref mrf :: .ref mki :: .ref mpa :: .ref mta :: .ref mla :: .ref msl :: .ref mco :: .ref mhe :: .ref mso :: .ref msi :: .ref msh :: .ref mce :: .ref mca :: .ref mwo :: .ref mnu :: .ref mte :: .int 0 :: .int 0 :: .int 0 :: .int 0 :: .int 0 :: .ref mwa :: .ref mke :: .ref mma :: .ref mth :: .ref mtr :: .int 0 :: .int 0 :: []))), (mla, .inl (cI, 40, .inl (fun _ => 0))), (msl, .inl (cI, 40, .inl (fun _ => 0)))] H := by rw [hH]; exact hP
  replace hS : va_S (va_A [(m0, .inr (8, (.int 0 :: .int 20 :: .int 0 :: .int 0 :: .int 0 :: .int 60 :: .int 0 :: .int 3 :: .int 1 :: .int (-1) :: .ref mrf :: .ref mki :: .ref mpa :: .ref mta :: .ref mla :: .ref msl :: .ref mco :: .ref mhe :: .ref mso :: .ref msi :: .ref msh :: .ref mce :: .ref mca :: .ref mwo :: .ref mnu :: .ref mte :: .int 0 :: .int 0 :: .int 0 :: .int 0 :: .int 0 :: .ref mwa :: .ref mke :: .ref mma :: .ref mth :: .ref mtr :: .int 0 :: .int 0 :: []))), (mla, .inl (cI, 40, .inl (fun _ => 0))), (msl, .inl (cI, 40, .inl (fun _ => 0)))] s.heap.size) s.heap H locs := by rw [hH, hL]; exact hS
  clear hH hL
  refine lv_aload_n hx hb dX8_sews_0 rfl (lv_at hl 0 rfl) ?_
  refine lv_iload_n hx hb dX8_sews_1 rfl (lv_at hl 1 rfl) ?_
  refine va_put (D := D) (ci := 8) (v := .int n) (ty := .int) (C := RX8) (T := TX8) (N := 38) hx hb hts hi_X8_sews_8 tyX8 tyX8_ok nmX8 hown hK hP hD hS 0 rfl rfl 1 (by decide) (hts (.fieldLink RX8 7 "TheLiningsInItModel" "teeth" "I") (List.mem_of_getElem? (i := 1) rfl)) (fun _ h9 => h9) rfl (by decide +kernel) rfl rfl (Nat.le_of_ble_eq_true rfl) dX8_sews_2 (fun H locs hP hD hS => ?_)
  replace hP : va_P D vwCl [(m0, .inr (8, (.int 0 :: .int n :: .int 0 :: .int 0 :: .int 0 :: .int 60 :: .int 0 :: .int 3 :: .int 1 :: .int (-1) :: .ref mrf :: .ref mki :: .ref mpa :: .ref mta :: .ref mla :: .ref msl :: .ref mco :: .ref mhe :: .ref mso :: .ref msi :: .ref msh :: .ref mce :: .ref mca :: .ref mwo :: .ref mnu :: .ref mte :: .int 0 :: .int 0 :: .int 0 :: .int 0 :: .int 0 :: .ref mwa :: .ref mke :: .ref mma :: .ref mth :: .ref mtr :: .int 0 :: .int 0 :: []))), (mla, .inl (cI, 40, .inl (fun _ => 0))), (msl, .inl (cI, 40, .inl (fun _ => 0)))] H := hP
  replace hD : va_D _ [(m0, .inr (8, (.int 0 :: .int n :: .int 0 :: .int 0 :: .int 0 :: .int 60 :: .int 0 :: .int 3 :: .int 1 :: .int (-1) :: .ref mrf :: .ref mki :: .ref mpa :: .ref mta :: .ref mla :: .ref msl :: .ref mco :: .ref mhe :: .ref mso :: .ref msi :: .ref msh :: .ref mce :: .ref mca :: .ref mwo :: .ref mnu :: .ref mte :: .int 0 :: .int 0 :: .int 0 :: .int 0 :: .int 0 :: .ref mwa :: .ref mke :: .ref mma :: .ref mth :: .ref mtr :: .int 0 :: .int 0 :: []))), (mla, .inl (cI, 40, .inl (fun _ => 0))), (msl, .inl (cI, 40, .inl (fun _ => 0)))] := hD
  refine lv_aload_n hx hb dX8_sews_5 rfl (lv_at hl 0 rfl) ?_
  refine lv_iconst (v := 0) hx hb dX8_sews_6 (by decide) ?_
  refine va_put (D := D) (ci := 8) (v := .int 0) (ty := .int) (C := RX8) (T := TX8) (N := 38) hx hb hts hi_X8_sews_8 tyX8 tyX8_ok nmX8 hown hK hP hD hS 0 rfl rfl 2 (by decide) (hts (.fieldLink RX8 122 "TheLiningsInItModel" "at" "I") (List.mem_of_getElem? (i := 2) rfl)) (fun _ h9 => h9) rfl (by decide +kernel) rfl rfl (Nat.le_of_ble_eq_true rfl) dX8_sews_7 (fun H locs hP hD hS => ?_)
  replace hP : va_P D vwCl [(m0, .inr (8, (.int 0 :: .int n :: .int 0 :: .int 0 :: .int 0 :: .int 60 :: .int 0 :: .int 3 :: .int 1 :: .int (-1) :: .ref mrf :: .ref mki :: .ref mpa :: .ref mta :: .ref mla :: .ref msl :: .ref mco :: .ref mhe :: .ref mso :: .ref msi :: .ref msh :: .ref mce :: .ref mca :: .ref mwo :: .ref mnu :: .ref mte :: .int 0 :: .int 0 :: .int 0 :: .int 0 :: .int 0 :: .ref mwa :: .ref mke :: .ref mma :: .ref mth :: .ref mtr :: .int 0 :: .int 0 :: []))), (mla, .inl (cI, 40, .inl (fun _ => 0))), (msl, .inl (cI, 40, .inl (fun _ => 0)))] H := hP
  replace hD : va_D _ [(m0, .inr (8, (.int 0 :: .int n :: .int 0 :: .int 0 :: .int 0 :: .int 60 :: .int 0 :: .int 3 :: .int 1 :: .int (-1) :: .ref mrf :: .ref mki :: .ref mpa :: .ref mta :: .ref mla :: .ref msl :: .ref mco :: .ref mhe :: .ref mso :: .ref msi :: .ref msh :: .ref mce :: .ref mca :: .ref mwo :: .ref mnu :: .ref mte :: .int 0 :: .int 0 :: .int 0 :: .int 0 :: .int 0 :: .ref mwa :: .ref mke :: .ref mma :: .ref mth :: .ref mtr :: .int 0 :: .int 0 :: []))), (mla, .inl (cI, 40, .inl (fun _ => 0))), (msl, .inl (cI, 40, .inl (fun _ => 0)))] := hD
  refine lv_iconst (v := 0) hx hb dX8_sews_10 (by decide) ?_
  refine lv_istore_n (lv' := [(2, .int 0), (0, .ref m0), (1, .int n)]) hx hb dX8_sews_11 rfl hl (by decide) rfl (fun ls hl => ?_)
  obtain ⟨i_12, hi_12⟩ : ∃ i : Int32, i = 0 := ⟨_, rfl⟩
  replace hl : lv_has ls 3 [(2, .int i_12), (0, .ref m0), (1, .int n)] := by rw [hi_12]; exact lv_sub hl [0, 1, 2] rfl
  have h1i_12 : i_12.toInt = 0 := by rw [hi_12]; decide
  obtain ⟨nfu, hni_12⟩ : ∃ nq9 : Nat, i_12.toInt + (nq9 : Int) = 40 := ⟨((40 : Int) - 0).toNat, by omega⟩
  have hloi_12 : 0 ≤ i_12.toInt := by omega
  clear h1i_12 hi_12
  skip
  revert hni_12
  revert hloi_12
  revert hl
  revert hS
  revert hD
  revert hP
  revert ls
  revert locs
  revert H
  revert i_12
  induction nfu with
  | zero =>
    intro i_12 H locs ls hP hD hS hl hloi_12 hni_12
    have hzi_12 : i_12.toInt = 40 := by omega
    refine lv_iload_n hx hb dX8_sews_12 rfl (lv_at hl 0 rfl) ?_
    refine lv_bipush (v := 40) hx hb dX8_sews_13 (by decide) ?_
    refine lv_icmp_ge (tgt := 38) hx hb dX8_sews_15 (by decide) (fun c_1 => ?_) (fun c_1 => ?_)
    · have fc_1 : 40 ≤ i_12.toInt := zf_le c_1 (by decide) rfl
      exact W.vret hx hb hr (fun t ht hW => ⟨⟨(), rfl, trivial, zP_nil, zD_nil⟩, hS.F ht⟩) hS.2.2 dX8_sews_38
    · exfalso; have fc_1 : i_12.toInt < 40 := zf_nle c_1 (by decide) rfl; omega
  | succ nfu ih =>
    intro i_12 H locs ls hP hD hS hl hloi_12 hni_12
    have hzi_12 : i_12.toInt < 40 := by omega
    refine lv_iload_n hx hb dX8_sews_12 rfl (lv_at hl 0 rfl) ?_
    refine lv_bipush (v := 40) hx hb dX8_sews_13 (by decide) ?_
    refine lv_icmp_ge (tgt := 38) hx hb dX8_sews_15 (by decide) (fun c_2 => ?_) (fun c_2 => ?_)
    · exfalso; have fc_2 : 40 ≤ i_12.toInt := zf_le c_2 (by decide) rfl; omega
    · have fc_2 : i_12.toInt < 40 := zf_nle c_2 (by decide) rfl
      refine lv_aload_n hx hb dX8_sews_18 rfl (lv_at hl 1 rfl) ?_
      refine va_get (D := D) (ci := 8) (v := .ref mla) (C := RX8) (T := TX8) (N := 38) hx hb hts hi_X8_sews_8 hown hK hP 0 rfl rfl 14 (by decide) (hts (.fieldLink RX8 38 "TheLiningsInItModel" "lacks" "[I") (List.mem_of_getElem? (i := 3) rfl)) (fun _ h9 => h9) rfl dX8_sews_19 ?_
      refine lv_iload_n hx hb dX8_sews_22 rfl (lv_at hl 0 rfl) ?_
      refine lv_iconst (v := 0) hx hb dX8_sews_23 (by decide) ?_
      refine va_iast hx hb hK hP hD hS 1 0 rfl rfl (zf_in (by omega) (by omega)) dX8_sews_24 (fun H locs hP hD hS => ?_)
      rw [zupd_k] at hP hD
      replace hP : va_P D vwCl [(m0, .inr (8, (.int 0 :: .int n :: .int 0 :: .int 0 :: .int 0 :: .int 60 :: .int 0 :: .int 3 :: .int 1 :: .int (-1) :: .ref mrf :: .ref mki :: .ref mpa :: .ref mta :: .ref mla :: .ref msl :: .ref mco :: .ref mhe :: .ref mso :: .ref msi :: .ref msh :: .ref mce :: .ref mca :: .ref mwo :: .ref mnu :: .ref mte :: .int 0 :: .int 0 :: .int 0 :: .int 0 :: .int 0 :: .ref mwa :: .ref mke :: .ref mma :: .ref mth :: .ref mtr :: .int 0 :: .int 0 :: []))), (mla, .inl (cI, 40, .inl (fun _ => 0))), (msl, .inl (cI, 40, .inl (fun _ => 0)))] H := hP
      replace hD : va_D _ [(m0, .inr (8, (.int 0 :: .int n :: .int 0 :: .int 0 :: .int 0 :: .int 60 :: .int 0 :: .int 3 :: .int 1 :: .int (-1) :: .ref mrf :: .ref mki :: .ref mpa :: .ref mta :: .ref mla :: .ref msl :: .ref mco :: .ref mhe :: .ref mso :: .ref msi :: .ref msh :: .ref mce :: .ref mca :: .ref mwo :: .ref mnu :: .ref mte :: .int 0 :: .int 0 :: .int 0 :: .int 0 :: .int 0 :: .ref mwa :: .ref mke :: .ref mma :: .ref mth :: .ref mtr :: .int 0 :: .int 0 :: []))), (mla, .inl (cI, 40, .inl (fun _ => 0))), (msl, .inl (cI, 40, .inl (fun _ => 0)))] := hD
      refine lv_aload_n hx hb dX8_sews_25 rfl (lv_at hl 1 rfl) ?_
      refine va_get (D := D) (ci := 8) (v := .ref msl) (C := RX8) (T := TX8) (N := 38) hx hb hts hi_X8_sews_8 hown hK hP 0 rfl rfl 15 (by decide) (hts (.fieldLink RX8 41 "TheLiningsInItModel" "slack" "[I") (List.mem_of_getElem? (i := 4) rfl)) (fun _ h9 => h9) rfl dX8_sews_26 ?_
      refine lv_iload_n hx hb dX8_sews_29 rfl (lv_at hl 0 rfl) ?_
      refine lv_iconst (v := 0) hx hb dX8_sews_30 (by decide) ?_
      refine va_iast hx hb hK hP hD hS 2 0 rfl rfl (zf_in (by omega) (by omega)) dX8_sews_31 (fun H locs hP hD hS => ?_)
      rw [zupd_k] at hP hD
      replace hP : va_P D vwCl [(m0, .inr (8, (.int 0 :: .int n :: .int 0 :: .int 0 :: .int 0 :: .int 60 :: .int 0 :: .int 3 :: .int 1 :: .int (-1) :: .ref mrf :: .ref mki :: .ref mpa :: .ref mta :: .ref mla :: .ref msl :: .ref mco :: .ref mhe :: .ref mso :: .ref msi :: .ref msh :: .ref mce :: .ref mca :: .ref mwo :: .ref mnu :: .ref mte :: .int 0 :: .int 0 :: .int 0 :: .int 0 :: .int 0 :: .ref mwa :: .ref mke :: .ref mma :: .ref mth :: .ref mtr :: .int 0 :: .int 0 :: []))), (mla, .inl (cI, 40, .inl (fun _ => 0))), (msl, .inl (cI, 40, .inl (fun _ => 0)))] H := hP
      replace hD : va_D _ [(m0, .inr (8, (.int 0 :: .int n :: .int 0 :: .int 0 :: .int 0 :: .int 60 :: .int 0 :: .int 3 :: .int 1 :: .int (-1) :: .ref mrf :: .ref mki :: .ref mpa :: .ref mta :: .ref mla :: .ref msl :: .ref mco :: .ref mhe :: .ref mso :: .ref msi :: .ref msh :: .ref mce :: .ref mca :: .ref mwo :: .ref mnu :: .ref mte :: .int 0 :: .int 0 :: .int 0 :: .int 0 :: .int 0 :: .ref mwa :: .ref mke :: .ref mma :: .ref mth :: .ref mtr :: .int 0 :: .int 0 :: []))), (mla, .inl (cI, 40, .inl (fun _ => 0))), (msl, .inl (cI, 40, .inl (fun _ => 0)))] := hD
      obtain ⟨x_3, ex_3⟩ : ∃ y : Int32, y = i_12 + 1 := ⟨_, rfl⟩
      have qx_3 : x_3.toInt = i_12.toInt + 1 := by rw [ex_3]; exact zf_add rfl (by decide) (by omega) (by omega)
      refine lv_iinc (v := x_3) (lv' := [(2, .int x_3), (0, .ref m0), (1, .int n)]) hx hb dX8_sews_32 hl (k := 0) rfl ex_3.symm (by decide) rfl (fun ls hl => ?_)
      refine lv_goto (tgt := 12) hx hb dX8_sews_35 (by decide) ?_
      exact ih x_3 _ _ _ (hP.sub [0, 1, 2] rfl) (hD.sub [0, 1, 2] (by decide) rfl) hS (lv_sub hl [0, 1, 2] rfl) (by omega) (by omega)
theorem hi_X8_teeth_8 : ∀ w ∈ u_ws RX8 TX8 38, w ∈ wsX8_teeth := by decide +kernel
set_option maxHeartbeats 4000000 in
set_option maxRecDepth 100000 in
theorem c_M_teeth (l : Launch) (D : va_G) (cI cJ cZ cP cS : ClassId) (m0 mrf mki mpa mta mla msl mco mhe mso msi msh mce mca mwo mnu mte mwa mke mma mth mtr : Nat) (n : Int32)  (sz : Nat) : Met l yX8_teeth wsX8_teeth ({ frames := 1, cells := 0, slots := 0, locals := 22 }) (va_Pc [.ref m0, .int n] (zW D (zKT cI cJ cZ cP cS) [(m0, .inr (8, (.int 0 :: .int 20 :: .int 0 :: .int 0 :: .int 0 :: .int 60 :: .int 0 :: .int 3 :: .int 1 :: .int (-1) :: .ref mrf :: .ref mki :: .ref mpa :: .ref mta :: .ref mla :: .ref msl :: .ref mco :: .ref mhe :: .ref mso :: .ref msi :: .ref msh :: .ref mce :: .ref mca :: .ref mwo :: .ref mnu :: .ref mte :: .int 0 :: .int 0 :: .int 0 :: .int 0 :: .int 0 :: .ref mwa :: .ref mke :: .ref mma :: .ref mth :: .ref mtr :: .int 0 :: .int 0 :: []))), (mrf, .inl (cI, 8, .inl (fun _ => 0))), (mla, .inl (cI, 40, .inl (fun _ => 0))), (msl, .inl (cI, 40, .inl (fun _ => 0)))] sz)) (va_Qi (fun (r : Int32) (_ : Unit) => (r = (-6) ∧ n.toInt < 4) ∨ (r = 20 ∧ 4 ≤ n.toInt ∧ n.toInt ≤ 40) ∨ (r = (-6) ∧ 4 ≤ n.toInt ∧ 40 < n.toInt)) (zB D [(m0, .inr (8, (.int 0 :: .int 20 :: .int 0 :: .int 0 :: .int 0 :: .int 60 :: .int 0 :: .int 3 :: .int 1 :: .int (-1) :: .ref mrf :: .ref mki :: .ref mpa :: .ref mta :: .ref mla :: .ref msl :: .ref mco :: .ref mhe :: .ref mso :: .ref msi :: .ref msh :: .ref mce :: .ref mca :: .ref mwo :: .ref mnu :: .ref mte :: .int 0 :: .int 0 :: .int 0 :: .int 0 :: .int 0 :: .ref mwa :: .ref mke :: .ref mma :: .ref mth :: .ref mtr :: .int 0 :: .int 0 :: []))), (mrf, .inl (cI, 8, .inl (fun _ => 0))), (mla, .inl (cI, 40, .inl (fun _ => 0))), (msl, .inl (cI, 40, .inl (fun _ => 0)))] sz (fun (_ : Unit) => ([] : va_W))) (va_A [(m0, .inr (8, (.int 0 :: .int 20 :: .int 0 :: .int 0 :: .int 0 :: .int 60 :: .int 0 :: .int 3 :: .int 1 :: .int (-1) :: .ref mrf :: .ref mki :: .ref mpa :: .ref mta :: .ref mla :: .ref msl :: .ref mco :: .ref mhe :: .ref mso :: .ref msi :: .ref msh :: .ref mce :: .ref mca :: .ref mwo :: .ref mnu :: .ref mte :: .int 0 :: .int 0 :: .int 0 :: .int 0 :: .int 0 :: .ref mwa :: .ref mke :: .ref mma :: .ref mth :: .ref mtr :: .int 0 :: .int 0 :: []))), (mrf, .inl (cI, 8, .inl (fun _ => 0))), (mla, .inl (cI, 40, .inl (fun _ => 0))), (msl, .inl (cI, 40, .inl (fun _ => 0)))] sz)) 0 0 (va_A [(m0, .inr (8, (.int 0 :: .int 20 :: .int 0 :: .int 0 :: .int 0 :: .int 60 :: .int 0 :: .int 3 :: .int 1 :: .int (-1) :: .ref mrf :: .ref mki :: .ref mpa :: .ref mta :: .ref mla :: .ref msl :: .ref mco :: .ref mhe :: .ref mso :: .ref msi :: .ref msh :: .ref mce :: .ref mca :: .ref mwo :: .ref mnu :: .ref mte :: .int 0 :: .int 0 :: .int 0 :: .int 0 :: .int 0 :: .ref mwa :: .ref mke :: .ref mma :: .ref mth :: .ref mtr :: .int 0 :: .int 0 :: []))), (mrf, .inl (cI, 8, .inl (fun _ => 0))), (mla, .inl (cI, 40, .inl (fun _ => 0))), (msl, .inl (cI, 40, .inl (fun _ => 0)))] sz) := by
  refine Met.ofW (cc := cX8_teeth) (maxL := 3) (ret := (some .int)) (by decide) rfl ?_
  intro p e s m args below meth c s₁ B hml hv
  obtain ⟨rfl, hsz, hP, hK, hD0, hN, hZ⟩ := hv
  have hx := B.exec
  have hb := B.bytes
  have hr := B.returns
  have hts := atoms_spec (ws := wsX8_teeth) B.pre
  have hown : s.vm.findClass RX8 = some m.cls := findClass_of_methodNamed B.named
  have hlocks := B.notSynchronized
  subst hsz
  have hD := hD0.self (sz := s.heap.size)
  have hA : ∀ q : Nat, s.heap.size ≤ q → va_A [(m0, .inr (8, (.int 0 :: .int 20 :: .int 0 :: .int 0 :: .int 0 :: .int 60 :: .int 0 :: .int 3 :: .int 1 :: .int (-1) :: .ref mrf :: .ref mki :: .ref mpa :: .ref mta :: .ref mla :: .ref msl :: .ref mco :: .ref mhe :: .ref mso :: .ref msi :: .ref msh :: .ref mce :: .ref mca :: .ref mwo :: .ref mnu :: .ref mte :: .int 0 :: .int 0 :: .int 0 :: .int 0 :: .int 0 :: .ref mwa :: .ref mke :: .ref mma :: .ref mth :: .ref mtr :: .int 0 :: .int 0 :: []))), (mrf, .inl (cI, 8, .inl (fun _ => 0))), (mla, .inl (cI, 40, .inl (fun _ => 0))), (msl, .inl (cI, 40, .inl (fun _ => 0)))] s.heap.size q := fun q h => Or.inr h
  have hS : va_S (va_A [(m0, .inr (8, (.int 0 :: .int 20 :: .int 0 :: .int 0 :: .int 0 :: .int 60 :: .int 0 :: .int 3 :: .int 1 :: .int (-1) :: .ref mrf :: .ref mki :: .ref mpa :: .ref mta :: .ref mla :: .ref msl :: .ref mco :: .ref mhe :: .ref mso :: .ref msi :: .ref msh :: .ref mce :: .ref mca :: .ref mwo :: .ref mnu :: .ref mte :: .int 0 :: .int 0 :: .int 0 :: .int 0 :: .int 0 :: .ref mwa :: .ref mke :: .ref mma :: .ref mth :: .ref mtr :: .int 0 :: .int 0 :: []))), (mrf, .inl (cI, 8, .inl (fun _ => 0))), (mla, .inl (cI, 40, .inl (fun _ => 0))), (msl, .inl (cI, 40, .inl (fun _ => 0)))] s.heap.size) s.heap s.heap [] := va_S.rf
  replace hP : va_P D vwCl _ s.heap := hP
  have hl := lv_entry ([.ref m0, .int n]) (n := 3) (Nat.le_of_ble_eq_true rfl)
  rw [lg_entry_eq]
  generalize (lg_sl ([.ref m0, .int n]) ++ List.replicate (3 - (lg_sl ([.ref m0, .int n])).length) Slot.unset).toArray = ls at hl ⊢
  replace hl : lv_has ls 3 [(0, .ref m0), (1, .int n)] := hl
  refine zw_start (fun H locs hH hL => ?_)
  replace hP : va_P D vwCl [(m0, .inr (8, (.int 0 :: .int 20 :: .int 0 :: .int 0 :: .int 0 :: .int 60 :: .int 0 :: .int 3 :: .int 1 :: .int (-1) :: .ref mrf :: .ref mki :: .ref mpa :: .ref mta :: .ref mla :: .ref msl :: .ref mco :: .ref mhe :: .ref mso :: .ref msi :: .ref msh :: .ref mce :: .ref mca :: .ref mwo :: .ref mnu :: .ref mte :: .int 0 :: .int 0 :: .int 0 :: .int 0 :: .int 0 :: .ref mwa :: .ref mke :: .ref mma :: .ref mth :: .ref mtr :: .int 0 :: .int 0 :: []))), (mrf, .inl (cI, 8, .inl (fun _ => 0))), (mla, .inl (cI, 40, .inl (fun _ => 0))), (msl, .inl (cI, 40, .inl (fun _ => 0)))] H := by rw [hH]; exact hP
  replace hS : va_S (va_A [(m0, .inr (8, (.int 0 :: .int 20 :: .int 0 :: .int 0 :: .int 0 :: .int 60 :: .int 0 :: .int 3 :: .int 1 :: .int (-1) :: .ref mrf :: .ref mki :: .ref mpa :: .ref mta :: .ref mla :: .ref msl :: .ref mco :: .ref mhe :: .ref mso :: .ref msi :: .ref msh :: .ref mce :: .ref mca :: .ref mwo :: .ref mnu :: .ref mte :: .int 0 :: .int 0 :: .int 0 :: .int 0 :: .int 0 :: .ref mwa :: .ref mke :: .ref mma :: .ref mth :: .ref mtr :: .int 0 :: .int 0 :: []))), (mrf, .inl (cI, 8, .inl (fun _ => 0))), (mla, .inl (cI, 40, .inl (fun _ => 0))), (msl, .inl (cI, 40, .inl (fun _ => 0)))] s.heap.size) s.heap H locs := by rw [hH, hL]; exact hS
  clear hH hL
  refine lv_iload_n hx hb dX8_teeth_0 rfl (lv_at hl 1 rfl) ?_
  refine lv_iconst (v := 4) hx hb dX8_teeth_1 (by decide) ?_
  refine lv_icmp_lt (tgt := 11) hx hb dX8_teeth_2 (by decide) (fun c_1 => ?_) (fun c_1 => ?_)
  · have fc_1 : n.toInt < 4 := zf_lt c_1 rfl (by decide)
    refine lv_aload_n hx hb dX8_teeth_11 rfl (lv_at hl 0 rfl) ?_
    refine lv_bipush (v := (-6)) hx hb dX8_teeth_12 (by decide) ?_
    skip
    refine zw_V (As := [.int (-6)]) (rest := []) (wr := []) ⟨hx, hb, hml, hown, hts⟩ (c_M_no_6 l D cI cJ cZ cP cS m0 mrf mki mpa mta mla msl mco mhe mso msi msh mce mca mwo mnu mte mwa mke mma mth mtr  H.size) (cwV 1 hts gX8_teeth_X8_no rfl rfl rfl (by decide +kernel) ⟨Nat.le_of_ble_eq_true rfl, Nat.le_of_ble_eq_true rfl⟩) hK hN (hZ.kept hS) hP hD hS hA [0, 1] [] rfl rfl (by decide) (by decide) (by decide) (va_recv hK hP (ci := 8) (q0 := 0) rfl rfl) rfl hl.1 rfl (Nat.le_of_ble_eq_true rfl) dX8_teeth_14 ⟨Nat.le_of_ble_eq_true rfl, Nat.le_of_ble_eq_true rfl⟩ (fun r_2 u_3 H locs hr_2 hP hD hS => ?_)
    obtain rfl := hr_2
    exact W.iret (v := (-6)) hx hb hr (fun t ht hW => ⟨⟨(-6), (), rfl, Or.inl (⟨rfl, (by first | omega | decide)⟩), zP_nil, zD_nil⟩, hS.F ht⟩) hS.2.2 dX8_teeth_17
  · have fc_1 : 4 ≤ n.toInt := zf_nlt c_1 rfl (by decide)
    refine lv_iload_n hx hb dX8_teeth_5 rfl (lv_at hl 1 rfl) ?_
    refine lv_bipush (v := 40) hx hb dX8_teeth_6 (by decide) ?_
    refine lv_icmp_le (tgt := 18) hx hb dX8_teeth_8 (by decide) (fun c_4 => ?_) (fun c_4 => ?_)
    · have fc_4 : n.toInt ≤ 40 := zf_le c_4 rfl (by decide)
      refine lv_aload_n hx hb dX8_teeth_18 rfl (lv_at hl 0 rfl) ?_
      refine va_get (D := D) (ci := 8) (v := .int 20) (C := RX8) (T := TX8) (N := 38) hx hb hts hi_X8_teeth_8 hown hK hP 0 rfl rfl 1 (by decide) (hts (.fieldLink RX8 7 "TheLiningsInItModel" "teeth" "I") (List.mem_of_getElem? (i := 1) rfl)) (fun _ h9 => h9) rfl dX8_teeth_19 ?_
      refine lv_istore_n (lv' := [(2, .int 20), (0, .ref m0), (1, .int n)]) hx hb dX8_teeth_22 rfl hl (by decide) rfl (fun ls hl => ?_)
      refine lv_aload_n hx hb dX8_teeth_23 rfl (lv_at hl 1 rfl) ?_
      refine lv_iload_n hx hb dX8_teeth_24 rfl (lv_at hl 2 rfl) ?_
      skip
      refine zw_Vv (As := [.int n]) (rest := []) (wr := []) ⟨hx, hb, hml, hown, hts⟩ (c_M_sews l D cI cJ cZ cP cS m0 mrf mki mpa mta mla msl mco mhe mso msi msh mce mca mwo mnu mte mwa mke mma mth mtr (n)  H.size) (cwV 1 hts gX8_teeth_X8_sews rfl rfl rfl (by decide +kernel) ⟨Nat.le_of_ble_eq_true rfl, Nat.le_of_ble_eq_true rfl⟩) hK hN (hZ.kept hS) hP hD hS hA [0, 2, 3] [] rfl rfl (by decide) (by decide) (by decide) (va_recv hK hP (ci := 8) (q0 := 0) rfl rfl) rfl hl.1 rfl (Nat.le_of_ble_eq_true rfl) dX8_teeth_25 ⟨Nat.le_of_ble_eq_true rfl, Nat.le_of_ble_eq_true rfl⟩ (fun u_6 H locs hr_5 hP hD hS => ?_)
      refine lv_iload_n hx hb dX8_teeth_28 rfl (lv_at hl 0 rfl) ?_
      exact W.iret (v := 20) hx hb hr (fun t ht hW => ⟨⟨20, (), rfl, Or.inr (Or.inl (⟨rfl, (by first | omega | decide), (by first | omega | decide)⟩)), zP_nil, zD_nil⟩, hS.F ht⟩) hS.2.2 dX8_teeth_29
    · have fc_4 : 40 < n.toInt := zf_nle c_4 rfl (by decide)
      refine lv_aload_n hx hb dX8_teeth_11 rfl (lv_at hl 0 rfl) ?_
      refine lv_bipush (v := (-6)) hx hb dX8_teeth_12 (by decide) ?_
      skip
      refine zw_V (As := [.int (-6)]) (rest := []) (wr := []) ⟨hx, hb, hml, hown, hts⟩ (c_M_no_6 l D cI cJ cZ cP cS m0 mrf mki mpa mta mla msl mco mhe mso msi msh mce mca mwo mnu mte mwa mke mma mth mtr  H.size) (cwV 1 hts gX8_teeth_X8_no rfl rfl rfl (by decide +kernel) ⟨Nat.le_of_ble_eq_true rfl, Nat.le_of_ble_eq_true rfl⟩) hK hN (hZ.kept hS) hP hD hS hA [0, 1] [] rfl rfl (by decide) (by decide) (by decide) (va_recv hK hP (ci := 8) (q0 := 0) rfl rfl) rfl hl.1 rfl (Nat.le_of_ble_eq_true rfl) dX8_teeth_14 ⟨Nat.le_of_ble_eq_true rfl, Nat.le_of_ble_eq_true rfl⟩ (fun r_7 u_8 H locs hr_7 hP hD hS => ?_)
      obtain rfl := hr_7
      exact W.iret (v := (-6)) hx hb hr (fun t ht hW => ⟨⟨(-6), (), rfl, Or.inr (Or.inr (⟨rfl, (by first | omega | decide), (by first | omega | decide)⟩)), zP_nil, zD_nil⟩, hS.F ht⟩) hS.2.2 dX8_teeth_17
theorem hi_X8_lack_8 : ∀ w ∈ u_ws RX8 TX8 38, w ∈ wsX8_lack := by decide +kernel
set_option maxHeartbeats 4000000 in
set_option maxRecDepth 100000 in
theorem c_M_lack (l : Launch) (D : va_G) (cI cJ cZ cP cS : ClassId) (m0 mrf mki mpa mta mla msl mco mhe mso msi msh mce mca mwo mnu mte mwa mke mma mth mtr : Nat) (t_ b_ : Int32)  (sz : Nat) : Met l yX8_lack wsX8_lack ({ frames := 1, cells := 0, slots := 0, locals := 21 }) (va_Pc [.ref m0, .int t_, .int b_] (zW D (zKT cI cJ cZ cP cS) [(m0, .inr (8, (.int 0 :: .int 20 :: .int 0 :: .int 0 :: .int 0 :: .int 60 :: .int 0 :: .int 3 :: .int 1 :: .int (-1) :: .ref mrf :: .ref mki :: .ref mpa :: .ref mta :: .ref mla :: .ref msl :: .ref mco :: .ref mhe :: .ref mso :: .ref msi :: .ref msh :: .ref mce :: .ref mca :: .ref mwo :: .ref mnu :: .ref mte :: .int 0 :: .int 0 :: .int 0 :: .int 0 :: .int 0 :: .ref mwa :: .ref mke :: .ref mma :: .ref mth :: .ref mtr :: .int 0 :: .int 0 :: []))), (mrf, .inl (cI, 8, .inl (fun _ => 0))), (mla, .inl (cI, 40, .inl (fun _ => 0)))] sz)) (va_Qi (fun (r : Int32) (_ : Unit) => (r = (-1) ∧ t_.toInt < 0) ∨ (r = (-1) ∧ 0 ≤ t_.toInt ∧ 20 ≤ t_.toInt) ∨ (r = 0 ∧ 0 ≤ t_.toInt ∧ t_.toInt < 20 ∧ b_.toInt = 0) ∨ (r = 0 ∧ 0 ≤ t_.toInt ∧ t_.toInt < 20 ∧ b_.toInt ≠ 0)) (zB D [(m0, .inr (8, (.int 0 :: .int 20 :: .int 0 :: .int 0 :: .int 0 :: .int 60 :: .int 0 :: .int 3 :: .int 1 :: .int (-1) :: .ref mrf :: .ref mki :: .ref mpa :: .ref mta :: .ref mla :: .ref msl :: .ref mco :: .ref mhe :: .ref mso :: .ref msi :: .ref msh :: .ref mce :: .ref mca :: .ref mwo :: .ref mnu :: .ref mte :: .int 0 :: .int 0 :: .int 0 :: .int 0 :: .int 0 :: .ref mwa :: .ref mke :: .ref mma :: .ref mth :: .ref mtr :: .int 0 :: .int 0 :: []))), (mrf, .inl (cI, 8, .inl (fun _ => 0))), (mla, .inl (cI, 40, .inl (fun _ => 0)))] sz (fun (_ : Unit) => ([] : va_W))) (va_A [(m0, .inr (8, (.int 0 :: .int 20 :: .int 0 :: .int 0 :: .int 0 :: .int 60 :: .int 0 :: .int 3 :: .int 1 :: .int (-1) :: .ref mrf :: .ref mki :: .ref mpa :: .ref mta :: .ref mla :: .ref msl :: .ref mco :: .ref mhe :: .ref mso :: .ref msi :: .ref msh :: .ref mce :: .ref mca :: .ref mwo :: .ref mnu :: .ref mte :: .int 0 :: .int 0 :: .int 0 :: .int 0 :: .int 0 :: .ref mwa :: .ref mke :: .ref mma :: .ref mth :: .ref mtr :: .int 0 :: .int 0 :: []))), (mrf, .inl (cI, 8, .inl (fun _ => 0))), (mla, .inl (cI, 40, .inl (fun _ => 0)))] sz)) 0 0 (va_A [(m0, .inr (8, (.int 0 :: .int 20 :: .int 0 :: .int 0 :: .int 0 :: .int 60 :: .int 0 :: .int 3 :: .int 1 :: .int (-1) :: .ref mrf :: .ref mki :: .ref mpa :: .ref mta :: .ref mla :: .ref msl :: .ref mco :: .ref mhe :: .ref mso :: .ref msi :: .ref msh :: .ref mce :: .ref mca :: .ref mwo :: .ref mnu :: .ref mte :: .int 0 :: .int 0 :: .int 0 :: .int 0 :: .int 0 :: .ref mwa :: .ref mke :: .ref mma :: .ref mth :: .ref mtr :: .int 0 :: .int 0 :: []))), (mrf, .inl (cI, 8, .inl (fun _ => 0))), (mla, .inl (cI, 40, .inl (fun _ => 0)))] sz) := by
  refine Met.ofW (cc := cX8_lack) (maxL := 4) (ret := (some .int)) (by decide) rfl ?_
  intro p e s m args below meth c s₁ B hml hv
  obtain ⟨rfl, hsz, hP, hK, hD0, hN, hZ⟩ := hv
  have hx := B.exec
  have hb := B.bytes
  have hr := B.returns
  have hts := atoms_spec (ws := wsX8_lack) B.pre
  have hown : s.vm.findClass RX8 = some m.cls := findClass_of_methodNamed B.named
  have hlocks := B.notSynchronized
  subst hsz
  have hD := hD0.self (sz := s.heap.size)
  have hA : ∀ q : Nat, s.heap.size ≤ q → va_A [(m0, .inr (8, (.int 0 :: .int 20 :: .int 0 :: .int 0 :: .int 0 :: .int 60 :: .int 0 :: .int 3 :: .int 1 :: .int (-1) :: .ref mrf :: .ref mki :: .ref mpa :: .ref mta :: .ref mla :: .ref msl :: .ref mco :: .ref mhe :: .ref mso :: .ref msi :: .ref msh :: .ref mce :: .ref mca :: .ref mwo :: .ref mnu :: .ref mte :: .int 0 :: .int 0 :: .int 0 :: .int 0 :: .int 0 :: .ref mwa :: .ref mke :: .ref mma :: .ref mth :: .ref mtr :: .int 0 :: .int 0 :: []))), (mrf, .inl (cI, 8, .inl (fun _ => 0))), (mla, .inl (cI, 40, .inl (fun _ => 0)))] s.heap.size q := fun q h => Or.inr h
  have hS : va_S (va_A [(m0, .inr (8, (.int 0 :: .int 20 :: .int 0 :: .int 0 :: .int 0 :: .int 60 :: .int 0 :: .int 3 :: .int 1 :: .int (-1) :: .ref mrf :: .ref mki :: .ref mpa :: .ref mta :: .ref mla :: .ref msl :: .ref mco :: .ref mhe :: .ref mso :: .ref msi :: .ref msh :: .ref mce :: .ref mca :: .ref mwo :: .ref mnu :: .ref mte :: .int 0 :: .int 0 :: .int 0 :: .int 0 :: .int 0 :: .ref mwa :: .ref mke :: .ref mma :: .ref mth :: .ref mtr :: .int 0 :: .int 0 :: []))), (mrf, .inl (cI, 8, .inl (fun _ => 0))), (mla, .inl (cI, 40, .inl (fun _ => 0)))] s.heap.size) s.heap s.heap [] := va_S.rf
  replace hP : va_P D vwCl _ s.heap := hP
  have hl := lv_entry ([.ref m0, .int t_, .int b_]) (n := 4) (Nat.le_of_ble_eq_true rfl)
  rw [lg_entry_eq]
  generalize (lg_sl ([.ref m0, .int t_, .int b_]) ++ List.replicate (4 - (lg_sl ([.ref m0, .int t_, .int b_])).length) Slot.unset).toArray = ls at hl ⊢
  replace hl : lv_has ls 4 [(0, .ref m0), (1, .int t_), (2, .int b_)] := hl
  refine zw_start (fun H locs hH hL => ?_)
  replace hP : va_P D vwCl [(m0, .inr (8, (.int 0 :: .int 20 :: .int 0 :: .int 0 :: .int 0 :: .int 60 :: .int 0 :: .int 3 :: .int 1 :: .int (-1) :: .ref mrf :: .ref mki :: .ref mpa :: .ref mta :: .ref mla :: .ref msl :: .ref mco :: .ref mhe :: .ref mso :: .ref msi :: .ref msh :: .ref mce :: .ref mca :: .ref mwo :: .ref mnu :: .ref mte :: .int 0 :: .int 0 :: .int 0 :: .int 0 :: .int 0 :: .ref mwa :: .ref mke :: .ref mma :: .ref mth :: .ref mtr :: .int 0 :: .int 0 :: []))), (mrf, .inl (cI, 8, .inl (fun _ => 0))), (mla, .inl (cI, 40, .inl (fun _ => 0)))] H := by rw [hH]; exact hP
  replace hS : va_S (va_A [(m0, .inr (8, (.int 0 :: .int 20 :: .int 0 :: .int 0 :: .int 0 :: .int 60 :: .int 0 :: .int 3 :: .int 1 :: .int (-1) :: .ref mrf :: .ref mki :: .ref mpa :: .ref mta :: .ref mla :: .ref msl :: .ref mco :: .ref mhe :: .ref mso :: .ref msi :: .ref msh :: .ref mce :: .ref mca :: .ref mwo :: .ref mnu :: .ref mte :: .int 0 :: .int 0 :: .int 0 :: .int 0 :: .int 0 :: .ref mwa :: .ref mke :: .ref mma :: .ref mth :: .ref mtr :: .int 0 :: .int 0 :: []))), (mrf, .inl (cI, 8, .inl (fun _ => 0))), (mla, .inl (cI, 40, .inl (fun _ => 0)))] s.heap.size) s.heap H locs := by rw [hH, hL]; exact hS
  clear hH hL
  refine lv_aload_n hx hb dX8_lack_0 rfl (lv_at hl 0 rfl) ?_
  refine lv_iload_n hx hb dX8_lack_1 rfl (lv_at hl 1 rfl) ?_
  refine zc_V (As := [.int t_]) (rest := []) ⟨hx, hb, hml, hown, hts⟩ (c_M_isTooth l D cI cJ cZ cP cS m0 mrf mki mpa mta mla msl mco mhe mso msi msh mce mca mwo mnu mte mwa mke mma mth mtr (t_) ) (cwV 1 hts gX8_lack_X8_isTooth rfl rfl rfl (by decide +kernel) ⟨Nat.le_of_ble_eq_true rfl, Nat.le_of_ble_eq_true rfl⟩) hK hN (hZ.kept hS) hP [0] rfl (va_recv hK hP (ci := 8) (q0 := 0) rfl rfl) rfl hl.1 rfl (Nat.le_of_ble_eq_true rfl) dX8_lack_2 ⟨Nat.le_of_ble_eq_true rfl, Nat.le_of_ble_eq_true rfl⟩ (fun r_1 hr_1 => ?_)
  rcases hr_1 with ⟨rfl, g_2⟩ | ⟨rfl, g_3, g_4⟩ | ⟨rfl, g_5, g_6⟩
  · refine lv_if_ne (tgt := 14) hx hb dX8_lack_5 (by decide) (fun c_7 => ?_) (fun c_7 => ?_)
    · exact absurd c_7 (by decide)
    · refine lv_aload_n hx hb dX8_lack_8 rfl (lv_at hl 0 rfl) ?_
      refine lv_iconst (v := (-1)) hx hb dX8_lack_9 (by decide) ?_
      skip
      refine zw_V (As := [.int (-1)]) (rest := []) (wr := []) ⟨hx, hb, hml, hown, hts⟩ (c_M_no_1 l D cI cJ cZ cP cS m0 mrf mki mpa mta mla msl mco mhe mso msi msh mce mca mwo mnu mte mwa mke mma mth mtr  H.size) (cwV 1 hts gX8_lack_X8_no rfl rfl rfl (by decide +kernel) ⟨Nat.le_of_ble_eq_true rfl, Nat.le_of_ble_eq_true rfl⟩) hK hN (hZ.kept hS) hP hD hS hA [0, 1] [] rfl rfl (by decide) (by decide) (by decide) (va_recv hK hP (ci := 8) (q0 := 0) rfl rfl) rfl hl.1 rfl (Nat.le_of_ble_eq_true rfl) dX8_lack_10 ⟨Nat.le_of_ble_eq_true rfl, Nat.le_of_ble_eq_true rfl⟩ (fun r_8 u_9 H locs hr_8 hP hD hS => ?_)
      obtain rfl := hr_8
      exact W.iret (v := (-1)) hx hb hr (fun t ht hW => ⟨⟨(-1), (), rfl, Or.inl (⟨rfl, (by first | omega | decide)⟩), zP_nil, zD_nil⟩, hS.F ht⟩) hS.2.2 dX8_lack_13
  · refine lv_if_ne (tgt := 14) hx hb dX8_lack_5 (by decide) (fun c_10 => ?_) (fun c_10 => ?_)
    · exact absurd c_10 (by decide)
    · refine lv_aload_n hx hb dX8_lack_8 rfl (lv_at hl 0 rfl) ?_
      refine lv_iconst (v := (-1)) hx hb dX8_lack_9 (by decide) ?_
      skip
      refine zw_V (As := [.int (-1)]) (rest := []) (wr := []) ⟨hx, hb, hml, hown, hts⟩ (c_M_no_1 l D cI cJ cZ cP cS m0 mrf mki mpa mta mla msl mco mhe mso msi msh mce mca mwo mnu mte mwa mke mma mth mtr  H.size) (cwV 1 hts gX8_lack_X8_no rfl rfl rfl (by decide +kernel) ⟨Nat.le_of_ble_eq_true rfl, Nat.le_of_ble_eq_true rfl⟩) hK hN (hZ.kept hS) hP hD hS hA [0, 1] [] rfl rfl (by decide) (by decide) (by decide) (va_recv hK hP (ci := 8) (q0 := 0) rfl rfl) rfl hl.1 rfl (Nat.le_of_ble_eq_true rfl) dX8_lack_10 ⟨Nat.le_of_ble_eq_true rfl, Nat.le_of_ble_eq_true rfl⟩ (fun r_11 u_12 H locs hr_11 hP hD hS => ?_)
      obtain rfl := hr_11
      exact W.iret (v := (-1)) hx hb hr (fun t ht hW => ⟨⟨(-1), (), rfl, Or.inr (Or.inl (⟨rfl, (by first | omega | decide), (by first | omega | decide)⟩)), zP_nil, zD_nil⟩, hS.F ht⟩) hS.2.2 dX8_lack_13
  · refine lv_if_ne (tgt := 14) hx hb dX8_lack_5 (by decide) (fun c_13 => ?_) (fun c_13 => ?_)
    · refine lv_aload_n hx hb dX8_lack_14 rfl (lv_at hl 0 rfl) ?_
      refine va_get (D := D) (ci := 8) (v := .ref mla) (C := RX8) (T := TX8) (N := 38) hx hb hts hi_X8_lack_8 hown hK hP 0 rfl rfl 14 (by decide) (hts (.fieldLink RX8 38 "TheLiningsInItModel" "lacks" "[I") (List.mem_of_getElem? (i := 1) rfl)) (fun _ h9 => h9) rfl dX8_lack_15 ?_
      refine lv_iload_n hx hb dX8_lack_18 rfl (lv_at hl 1 rfl) ?_
      refine va_iald hx hb hK hP 2 0 rfl rfl (zf_in (by omega) (by omega)) dX8_lack_19 ?_
      refine lv_topi (fun x_14 ex_14 => ?_)
      obtain rfl : x_14 = 0 := ex_14
      refine lv_istore_n (lv' := [(3, .int 0), (0, .ref m0), (1, .int t_), (2, .int b_)]) hx hb dX8_lack_20 rfl hl (by decide) rfl (fun ls hl => ?_)
      refine lv_aload_n hx hb dX8_lack_21 rfl (lv_at hl 1 rfl) ?_
      refine va_get (D := D) (ci := 8) (v := .ref mla) (C := RX8) (T := TX8) (N := 38) hx hb hts hi_X8_lack_8 hown hK hP 0 rfl rfl 14 (by decide) (hts (.fieldLink RX8 38 "TheLiningsInItModel" "lacks" "[I") (List.mem_of_getElem? (i := 1) rfl)) (fun _ h9 => h9) rfl dX8_lack_22 ?_
      refine lv_iload_n hx hb dX8_lack_25 rfl (lv_at hl 2 rfl) ?_
      refine lv_iload_n hx hb dX8_lack_26 rfl (lv_at hl 3 rfl) ?_
      refine lv_if_eq (tgt := 34) hx hb dX8_lack_27 (by decide) (fun c_15 => ?_) (fun c_15 => ?_)
      · have fc_15 : b_.toInt = 0 := zf_eq c_15 rfl (by decide)
        refine lv_iconst (v := 0) hx hb dX8_lack_34 (by decide) ?_
        refine va_iast hx hb hK hP hD hS 2 0 rfl rfl (zf_in (by omega) (by omega)) dX8_lack_35 (fun H locs hP hD hS => ?_)
        refine lv_iload_n hx hb dX8_lack_36 rfl (lv_at hl 0 rfl) ?_
        exact W.iret (v := 0) hx hb hr (fun t ht hW => ⟨⟨0, (), rfl, Or.inr (Or.inr (Or.inl (⟨rfl, (by first | omega | decide), (by first | omega | decide), (by first | omega | decide)⟩))), zP_nil, zD_nil⟩, hS.F ht⟩) hS.2.2 dX8_lack_37
      · have fc_15 : b_.toInt ≠ 0 := zf_ne c_15 rfl (by decide)
        refine lv_iconst (v := 1) hx hb dX8_lack_30 (by decide) ?_
        refine lv_goto (tgt := 35) hx hb dX8_lack_31 (by decide) ?_
        refine va_iast hx hb hK hP hD hS 2 0 rfl rfl (zf_in (by omega) (by omega)) dX8_lack_35 (fun H locs hP hD hS => ?_)
        refine lv_iload_n hx hb dX8_lack_36 rfl (lv_at hl 0 rfl) ?_
        exact W.iret (v := 0) hx hb hr (fun t ht hW => ⟨⟨0, (), rfl, Or.inr (Or.inr (Or.inr (⟨rfl, (by first | omega | decide), (by first | omega | decide), (by first | omega | decide)⟩))), zP_nil, zD_nil⟩, hS.F ht⟩) hS.2.2 dX8_lack_37
    · exact absurd c_13 (by decide)
theorem hi_X8_slack_8 : ∀ w ∈ u_ws RX8 TX8 38, w ∈ wsX8_slack := by decide +kernel
set_option maxHeartbeats 4000000 in
set_option maxRecDepth 100000 in
theorem c_M_slack (l : Launch) (D : va_G) (cI cJ cZ cP cS : ClassId) (m0 mrf mki mpa mta mla msl mco mhe mso msi msh mce mca mwo mnu mte mwa mke mma mth mtr : Nat) (t_ v : Int32)  (sz : Nat) : Met l yX8_slack wsX8_slack ({ frames := 1, cells := 0, slots := 0, locals := 21 }) (va_Pc [.ref m0, .int t_, .int v] (zW D (zKT cI cJ cZ cP cS) [(m0, .inr (8, (.int 0 :: .int 20 :: .int 0 :: .int 0 :: .int 0 :: .int 60 :: .int 0 :: .int 3 :: .int 1 :: .int (-1) :: .ref mrf :: .ref mki :: .ref mpa :: .ref mta :: .ref mla :: .ref msl :: .ref mco :: .ref mhe :: .ref mso :: .ref msi :: .ref msh :: .ref mce :: .ref mca :: .ref mwo :: .ref mnu :: .ref mte :: .int 0 :: .int 0 :: .int 0 :: .int 0 :: .int 0 :: .ref mwa :: .ref mke :: .ref mma :: .ref mth :: .ref mtr :: .int 0 :: .int 0 :: []))), (mrf, .inl (cI, 8, .inl (fun _ => 0))), (msl, .inl (cI, 40, .inl (fun _ => 0)))] sz)) (va_Qi (fun (r : Int32) (_ : Unit) => (r = (-1) ∧ t_.toInt < 0) ∨ (r = (-1) ∧ 0 ≤ t_.toInt ∧ 20 ≤ t_.toInt) ∨ (r = (-6) ∧ 0 ≤ t_.toInt ∧ t_.toInt < 20 ∧ v.toInt < 0) ∨ (r = 0 ∧ 0 ≤ t_.toInt ∧ t_.toInt < 20 ∧ 0 ≤ v.toInt ∧ v.toInt ≤ 9) ∨ (r = (-6) ∧ 0 ≤ t_.toInt ∧ t_.toInt < 20 ∧ 0 ≤ v.toInt ∧ 9 < v.toInt)) (zB D [(m0, .inr (8, (.int 0 :: .int 20 :: .int 0 :: .int 0 :: .int 0 :: .int 60 :: .int 0 :: .int 3 :: .int 1 :: .int (-1) :: .ref mrf :: .ref mki :: .ref mpa :: .ref mta :: .ref mla :: .ref msl :: .ref mco :: .ref mhe :: .ref mso :: .ref msi :: .ref msh :: .ref mce :: .ref mca :: .ref mwo :: .ref mnu :: .ref mte :: .int 0 :: .int 0 :: .int 0 :: .int 0 :: .int 0 :: .ref mwa :: .ref mke :: .ref mma :: .ref mth :: .ref mtr :: .int 0 :: .int 0 :: []))), (mrf, .inl (cI, 8, .inl (fun _ => 0))), (msl, .inl (cI, 40, .inl (fun _ => 0)))] sz (fun (_ : Unit) => ([] : va_W))) (va_A [(m0, .inr (8, (.int 0 :: .int 20 :: .int 0 :: .int 0 :: .int 0 :: .int 60 :: .int 0 :: .int 3 :: .int 1 :: .int (-1) :: .ref mrf :: .ref mki :: .ref mpa :: .ref mta :: .ref mla :: .ref msl :: .ref mco :: .ref mhe :: .ref mso :: .ref msi :: .ref msh :: .ref mce :: .ref mca :: .ref mwo :: .ref mnu :: .ref mte :: .int 0 :: .int 0 :: .int 0 :: .int 0 :: .int 0 :: .ref mwa :: .ref mke :: .ref mma :: .ref mth :: .ref mtr :: .int 0 :: .int 0 :: []))), (mrf, .inl (cI, 8, .inl (fun _ => 0))), (msl, .inl (cI, 40, .inl (fun _ => 0)))] sz)) 0 0 (va_A [(m0, .inr (8, (.int 0 :: .int 20 :: .int 0 :: .int 0 :: .int 0 :: .int 60 :: .int 0 :: .int 3 :: .int 1 :: .int (-1) :: .ref mrf :: .ref mki :: .ref mpa :: .ref mta :: .ref mla :: .ref msl :: .ref mco :: .ref mhe :: .ref mso :: .ref msi :: .ref msh :: .ref mce :: .ref mca :: .ref mwo :: .ref mnu :: .ref mte :: .int 0 :: .int 0 :: .int 0 :: .int 0 :: .int 0 :: .ref mwa :: .ref mke :: .ref mma :: .ref mth :: .ref mtr :: .int 0 :: .int 0 :: []))), (mrf, .inl (cI, 8, .inl (fun _ => 0))), (msl, .inl (cI, 40, .inl (fun _ => 0)))] sz) := by
  refine Met.ofW (cc := cX8_slack) (maxL := 4) (ret := (some .int)) (by decide) rfl ?_
  intro p e s m args below meth c s₁ B hml hv
  obtain ⟨rfl, hsz, hP, hK, hD0, hN, hZ⟩ := hv
  have hx := B.exec
  have hb := B.bytes
  have hr := B.returns
  have hts := atoms_spec (ws := wsX8_slack) B.pre
  have hown : s.vm.findClass RX8 = some m.cls := findClass_of_methodNamed B.named
  have hlocks := B.notSynchronized
  subst hsz
  have hD := hD0.self (sz := s.heap.size)
  have hA : ∀ q : Nat, s.heap.size ≤ q → va_A [(m0, .inr (8, (.int 0 :: .int 20 :: .int 0 :: .int 0 :: .int 0 :: .int 60 :: .int 0 :: .int 3 :: .int 1 :: .int (-1) :: .ref mrf :: .ref mki :: .ref mpa :: .ref mta :: .ref mla :: .ref msl :: .ref mco :: .ref mhe :: .ref mso :: .ref msi :: .ref msh :: .ref mce :: .ref mca :: .ref mwo :: .ref mnu :: .ref mte :: .int 0 :: .int 0 :: .int 0 :: .int 0 :: .int 0 :: .ref mwa :: .ref mke :: .ref mma :: .ref mth :: .ref mtr :: .int 0 :: .int 0 :: []))), (mrf, .inl (cI, 8, .inl (fun _ => 0))), (msl, .inl (cI, 40, .inl (fun _ => 0)))] s.heap.size q := fun q h => Or.inr h
  have hS : va_S (va_A [(m0, .inr (8, (.int 0 :: .int 20 :: .int 0 :: .int 0 :: .int 0 :: .int 60 :: .int 0 :: .int 3 :: .int 1 :: .int (-1) :: .ref mrf :: .ref mki :: .ref mpa :: .ref mta :: .ref mla :: .ref msl :: .ref mco :: .ref mhe :: .ref mso :: .ref msi :: .ref msh :: .ref mce :: .ref mca :: .ref mwo :: .ref mnu :: .ref mte :: .int 0 :: .int 0 :: .int 0 :: .int 0 :: .int 0 :: .ref mwa :: .ref mke :: .ref mma :: .ref mth :: .ref mtr :: .int 0 :: .int 0 :: []))), (mrf, .inl (cI, 8, .inl (fun _ => 0))), (msl, .inl (cI, 40, .inl (fun _ => 0)))] s.heap.size) s.heap s.heap [] := va_S.rf
  replace hP : va_P D vwCl _ s.heap := hP
  have hl := lv_entry ([.ref m0, .int t_, .int v]) (n := 4) (Nat.le_of_ble_eq_true rfl)
  rw [lg_entry_eq]
  generalize (lg_sl ([.ref m0, .int t_, .int v]) ++ List.replicate (4 - (lg_sl ([.ref m0, .int t_, .int v])).length) Slot.unset).toArray = ls at hl ⊢
  replace hl : lv_has ls 4 [(0, .ref m0), (1, .int t_), (2, .int v)] := hl
  refine zw_start (fun H locs hH hL => ?_)
  replace hP : va_P D vwCl [(m0, .inr (8, (.int 0 :: .int 20 :: .int 0 :: .int 0 :: .int 0 :: .int 60 :: .int 0 :: .int 3 :: .int 1 :: .int (-1) :: .ref mrf :: .ref mki :: .ref mpa :: .ref mta :: .ref mla :: .ref msl :: .ref mco :: .ref mhe :: .ref mso :: .ref msi :: .ref msh :: .ref mce :: .ref mca :: .ref mwo :: .ref mnu :: .ref mte :: .int 0 :: .int 0 :: .int 0 :: .int 0 :: .int 0 :: .ref mwa :: .ref mke :: .ref mma :: .ref mth :: .ref mtr :: .int 0 :: .int 0 :: []))), (mrf, .inl (cI, 8, .inl (fun _ => 0))), (msl, .inl (cI, 40, .inl (fun _ => 0)))] H := by rw [hH]; exact hP
  replace hS : va_S (va_A [(m0, .inr (8, (.int 0 :: .int 20 :: .int 0 :: .int 0 :: .int 0 :: .int 60 :: .int 0 :: .int 3 :: .int 1 :: .int (-1) :: .ref mrf :: .ref mki :: .ref mpa :: .ref mta :: .ref mla :: .ref msl :: .ref mco :: .ref mhe :: .ref mso :: .ref msi :: .ref msh :: .ref mce :: .ref mca :: .ref mwo :: .ref mnu :: .ref mte :: .int 0 :: .int 0 :: .int 0 :: .int 0 :: .int 0 :: .ref mwa :: .ref mke :: .ref mma :: .ref mth :: .ref mtr :: .int 0 :: .int 0 :: []))), (mrf, .inl (cI, 8, .inl (fun _ => 0))), (msl, .inl (cI, 40, .inl (fun _ => 0)))] s.heap.size) s.heap H locs := by rw [hH, hL]; exact hS
  clear hH hL
  refine lv_aload_n hx hb dX8_slack_0 rfl (lv_at hl 0 rfl) ?_
  refine lv_iload_n hx hb dX8_slack_1 rfl (lv_at hl 1 rfl) ?_
  refine zc_V (As := [.int t_]) (rest := []) ⟨hx, hb, hml, hown, hts⟩ (c_M_isTooth l D cI cJ cZ cP cS m0 mrf mki mpa mta mla msl mco mhe mso msi msh mce mca mwo mnu mte mwa mke mma mth mtr (t_) ) (cwV 1 hts gX8_slack_X8_isTooth rfl rfl rfl (by decide +kernel) ⟨Nat.le_of_ble_eq_true rfl, Nat.le_of_ble_eq_true rfl⟩) hK hN (hZ.kept hS) hP [0] rfl (va_recv hK hP (ci := 8) (q0 := 0) rfl rfl) rfl hl.1 rfl (Nat.le_of_ble_eq_true rfl) dX8_slack_2 ⟨Nat.le_of_ble_eq_true rfl, Nat.le_of_ble_eq_true rfl⟩ (fun r_1 hr_1 => ?_)
  rcases hr_1 with ⟨rfl, g_2⟩ | ⟨rfl, g_3, g_4⟩ | ⟨rfl, g_5, g_6⟩
  · refine lv_if_ne (tgt := 14) hx hb dX8_slack_5 (by decide) (fun c_7 => ?_) (fun c_7 => ?_)
    · exact absurd c_7 (by decide)
    · refine lv_aload_n hx hb dX8_slack_8 rfl (lv_at hl 0 rfl) ?_
      refine lv_iconst (v := (-1)) hx hb dX8_slack_9 (by decide) ?_
      skip
      refine zw_V (As := [.int (-1)]) (rest := []) (wr := []) ⟨hx, hb, hml, hown, hts⟩ (c_M_no_1 l D cI cJ cZ cP cS m0 mrf mki mpa mta mla msl mco mhe mso msi msh mce mca mwo mnu mte mwa mke mma mth mtr  H.size) (cwV 1 hts gX8_slack_X8_no rfl rfl rfl (by decide +kernel) ⟨Nat.le_of_ble_eq_true rfl, Nat.le_of_ble_eq_true rfl⟩) hK hN (hZ.kept hS) hP hD hS hA [0, 1] [] rfl rfl (by decide) (by decide) (by decide) (va_recv hK hP (ci := 8) (q0 := 0) rfl rfl) rfl hl.1 rfl (Nat.le_of_ble_eq_true rfl) dX8_slack_10 ⟨Nat.le_of_ble_eq_true rfl, Nat.le_of_ble_eq_true rfl⟩ (fun r_8 u_9 H locs hr_8 hP hD hS => ?_)
      obtain rfl := hr_8
      exact W.iret (v := (-1)) hx hb hr (fun t ht hW => ⟨⟨(-1), (), rfl, Or.inl (⟨rfl, (by first | omega | decide)⟩), zP_nil, zD_nil⟩, hS.F ht⟩) hS.2.2 dX8_slack_13
  · refine lv_if_ne (tgt := 14) hx hb dX8_slack_5 (by decide) (fun c_10 => ?_) (fun c_10 => ?_)
    · exact absurd c_10 (by decide)
    · refine lv_aload_n hx hb dX8_slack_8 rfl (lv_at hl 0 rfl) ?_
      refine lv_iconst (v := (-1)) hx hb dX8_slack_9 (by decide) ?_
      skip
      refine zw_V (As := [.int (-1)]) (rest := []) (wr := []) ⟨hx, hb, hml, hown, hts⟩ (c_M_no_1 l D cI cJ cZ cP cS m0 mrf mki mpa mta mla msl mco mhe mso msi msh mce mca mwo mnu mte mwa mke mma mth mtr  H.size) (cwV 1 hts gX8_slack_X8_no rfl rfl rfl (by decide +kernel) ⟨Nat.le_of_ble_eq_true rfl, Nat.le_of_ble_eq_true rfl⟩) hK hN (hZ.kept hS) hP hD hS hA [0, 1] [] rfl rfl (by decide) (by decide) (by decide) (va_recv hK hP (ci := 8) (q0 := 0) rfl rfl) rfl hl.1 rfl (Nat.le_of_ble_eq_true rfl) dX8_slack_10 ⟨Nat.le_of_ble_eq_true rfl, Nat.le_of_ble_eq_true rfl⟩ (fun r_11 u_12 H locs hr_11 hP hD hS => ?_)
      obtain rfl := hr_11
      exact W.iret (v := (-1)) hx hb hr (fun t ht hW => ⟨⟨(-1), (), rfl, Or.inr (Or.inl (⟨rfl, (by first | omega | decide), (by first | omega | decide)⟩)), zP_nil, zD_nil⟩, hS.F ht⟩) hS.2.2 dX8_slack_13
  · refine lv_if_ne (tgt := 14) hx hb dX8_slack_5 (by decide) (fun c_13 => ?_) (fun c_13 => ?_)
    · refine lv_iload_n hx hb dX8_slack_14 rfl (lv_at hl 2 rfl) ?_
      refine lv_if_lt (tgt := 24) hx hb dX8_slack_15 (by decide) (fun c_14 => ?_) (fun c_14 => ?_)
      · have fc_14 : v.toInt < 0 := zf_lt c_14 rfl (by decide)
        refine lv_aload_n hx hb dX8_slack_24 rfl (lv_at hl 0 rfl) ?_
        refine lv_bipush (v := (-6)) hx hb dX8_slack_25 (by decide) ?_
        skip
        refine zw_V (As := [.int (-6)]) (rest := []) (wr := []) ⟨hx, hb, hml, hown, hts⟩ (c_M_no_6 l D cI cJ cZ cP cS m0 mrf mki mpa mta mla msl mco mhe mso msi msh mce mca mwo mnu mte mwa mke mma mth mtr  H.size) (cwV 1 hts gX8_slack_X8_no rfl rfl rfl (by decide +kernel) ⟨Nat.le_of_ble_eq_true rfl, Nat.le_of_ble_eq_true rfl⟩) hK hN (hZ.kept hS) hP hD hS hA [0, 1] [] rfl rfl (by decide) (by decide) (by decide) (va_recv hK hP (ci := 8) (q0 := 0) rfl rfl) rfl hl.1 rfl (Nat.le_of_ble_eq_true rfl) dX8_slack_27 ⟨Nat.le_of_ble_eq_true rfl, Nat.le_of_ble_eq_true rfl⟩ (fun r_15 u_16 H locs hr_15 hP hD hS => ?_)
        obtain rfl := hr_15
        exact W.iret (v := (-6)) hx hb hr (fun t ht hW => ⟨⟨(-6), (), rfl, Or.inr (Or.inr (Or.inl (⟨rfl, (by first | omega | decide), (by first | omega | decide), (by first | omega | decide)⟩))), zP_nil, zD_nil⟩, hS.F ht⟩) hS.2.2 dX8_slack_30
      · have fc_14 : 0 ≤ v.toInt := zf_nlt c_14 rfl (by decide)
        refine lv_iload_n hx hb dX8_slack_18 rfl (lv_at hl 2 rfl) ?_
        refine lv_bipush (v := 9) hx hb dX8_slack_19 (by decide) ?_
        refine lv_icmp_le (tgt := 31) hx hb dX8_slack_21 (by decide) (fun c_17 => ?_) (fun c_17 => ?_)
        · have fc_17 : v.toInt ≤ 9 := zf_le c_17 rfl (by decide)
          refine lv_aload_n hx hb dX8_slack_31 rfl (lv_at hl 0 rfl) ?_
          refine va_get (D := D) (ci := 8) (v := .ref msl) (C := RX8) (T := TX8) (N := 38) hx hb hts hi_X8_slack_8 hown hK hP 0 rfl rfl 15 (by decide) (hts (.fieldLink RX8 41 "TheLiningsInItModel" "slack" "[I") (List.mem_of_getElem? (i := 1) rfl)) (fun _ h9 => h9) rfl dX8_slack_32 ?_
          refine lv_iload_n hx hb dX8_slack_35 rfl (lv_at hl 1 rfl) ?_
          refine va_iald hx hb hK hP 2 0 rfl rfl (zf_in (by omega) (by omega)) dX8_slack_36 ?_
          refine lv_topi (fun x_18 ex_18 => ?_)
          obtain rfl : x_18 = 0 := ex_18
          refine lv_istore_n (lv' := [(3, .int 0), (0, .ref m0), (1, .int t_), (2, .int v)]) hx hb dX8_slack_37 rfl hl (by decide) rfl (fun ls hl => ?_)
          refine lv_aload_n hx hb dX8_slack_38 rfl (lv_at hl 1 rfl) ?_
          refine va_get (D := D) (ci := 8) (v := .ref msl) (C := RX8) (T := TX8) (N := 38) hx hb hts hi_X8_slack_8 hown hK hP 0 rfl rfl 15 (by decide) (hts (.fieldLink RX8 41 "TheLiningsInItModel" "slack" "[I") (List.mem_of_getElem? (i := 1) rfl)) (fun _ h9 => h9) rfl dX8_slack_39 ?_
          refine lv_iload_n hx hb dX8_slack_42 rfl (lv_at hl 2 rfl) ?_
          refine lv_iload_n hx hb dX8_slack_43 rfl (lv_at hl 3 rfl) ?_
          refine va_iast hx hb hK hP hD hS 2 0 rfl rfl (zf_in (by omega) (by omega)) dX8_slack_44 (fun H locs hP hD hS => ?_)
          refine lv_iload_n hx hb dX8_slack_45 rfl (lv_at hl 0 rfl) ?_
          exact W.iret (v := 0) hx hb hr (fun t ht hW => ⟨⟨0, (), rfl, Or.inr (Or.inr (Or.inr (Or.inl (⟨rfl, (by first | omega | decide), (by first | omega | decide), (by first | omega | decide), (by first | omega | decide)⟩)))), zP_nil, zD_nil⟩, hS.F ht⟩) hS.2.2 dX8_slack_46
        · have fc_17 : 9 < v.toInt := zf_nle c_17 rfl (by decide)
          refine lv_aload_n hx hb dX8_slack_24 rfl (lv_at hl 0 rfl) ?_
          refine lv_bipush (v := (-6)) hx hb dX8_slack_25 (by decide) ?_
          skip
          refine zw_V (As := [.int (-6)]) (rest := []) (wr := []) ⟨hx, hb, hml, hown, hts⟩ (c_M_no_6 l D cI cJ cZ cP cS m0 mrf mki mpa mta mla msl mco mhe mso msi msh mce mca mwo mnu mte mwa mke mma mth mtr  H.size) (cwV 1 hts gX8_slack_X8_no rfl rfl rfl (by decide +kernel) ⟨Nat.le_of_ble_eq_true rfl, Nat.le_of_ble_eq_true rfl⟩) hK hN (hZ.kept hS) hP hD hS hA [0, 1] [] rfl rfl (by decide) (by decide) (by decide) (va_recv hK hP (ci := 8) (q0 := 0) rfl rfl) rfl hl.1 rfl (Nat.le_of_ble_eq_true rfl) dX8_slack_27 ⟨Nat.le_of_ble_eq_true rfl, Nat.le_of_ble_eq_true rfl⟩ (fun r_19 u_20 H locs hr_19 hP hD hS => ?_)
          obtain rfl := hr_19
          exact W.iret (v := (-6)) hx hb hr (fun t ht hW => ⟨⟨(-6), (), rfl, Or.inr (Or.inr (Or.inr (Or.inr (⟨rfl, (by first | omega | decide), (by first | omega | decide), (by first | omega | decide), (by first | omega | decide)⟩)))), zP_nil, zD_nil⟩, hS.F ht⟩) hS.2.2 dX8_slack_30
    · exact absurd c_13 (by decide)
theorem hi_X8_most_8 : ∀ w ∈ u_ws RX8 TX8 38, w ∈ wsX8_most := by decide +kernel
set_option maxHeartbeats 4000000 in
set_option maxRecDepth 100000 in
theorem c_M_most (l : Launch) (D : va_G) (cI cJ cZ cP cS : ClassId) (m0 mrf mki mpa mta mla msl mco mhe mso msi msh mce mca mwo mnu mte mwa mke mma mth mtr : Nat) (w : Int32) (hy0 : 0 ≤ w.toInt) (hy1 : w.toInt ≤ 7) : Met l yX8_most wsX8_most ({ frames := 0, cells := 0, slots := 0, locals := 0 }) (va_Pc [.ref m0, .int w] (zR D (zKT cI cJ cZ cP cS) [(m0, .inr (8, (.int 0 :: .int 20 :: .int 0 :: .int 0 :: .int 0 :: .int 60 :: .int 0 :: .int 3 :: .int 1 :: .int (-1) :: .ref mrf :: .ref mki :: .ref mpa :: .ref mta :: .ref mla :: .ref msl :: .ref mco :: .ref mhe :: .ref mso :: .ref msi :: .ref msh :: .ref mce :: .ref mca :: .ref mwo :: .ref mnu :: .ref mte :: .int 0 :: .int 0 :: .int 0 :: .int 0 :: .int 0 :: .ref mwa :: .ref mke :: .ref mma :: .ref mth :: .ref mtr :: .int 0 :: .int 0 :: [])))])) (vp_Si (fun r => (r = 9 ∧ w.toInt ≠ 0 ∧ w.toInt ≠ 1 ∧ w.toInt = 2) ∨ (r = 99 ∧ w.toInt ≠ 0 ∧ w.toInt ≠ 1 ∧ w.toInt ≠ 2 ∧ w.toInt ≠ 3 ∧ w.toInt ≠ 7) ∨ (r = 20 ∧ w.toInt ≠ 0 ∧ w.toInt ≠ 1 ∧ w.toInt ≠ 2 ∧ w.toInt ≠ 3 ∧ w.toInt = 7) ∨ (r = 9 ∧ w.toInt ≠ 0 ∧ w.toInt ≠ 1 ∧ w.toInt ≠ 2 ∧ w.toInt = 3) ∨ (r = 300 ∧ w.toInt ≠ 0 ∧ w.toInt = 1) ∨ (r = 24 ∧ w.toInt = 0))) 0 0 (fun _ => False) := by
  refine Met.ofW (cc := cX8_most) (maxL := 2) (ret := (some .int)) (by decide) rfl ?_
  intro p e s m args below meth c s₁ B hml hv
  obtain ⟨rfl, hP, hK, hN, hZ⟩ := hv
  have hx := B.exec
  have hb := B.bytes
  have hr := B.returns
  have hts := atoms_spec (ws := wsX8_most) B.pre
  have hown : s.vm.findClass RX8 = some m.cls := findClass_of_methodNamed B.named
  have hlocks := B.notSynchronized
  have hl := lv_entry ([.ref m0, .int w]) (n := 2) (Nat.le_of_ble_eq_true rfl)
  rw [lg_entry_eq]
  generalize (lg_sl ([.ref m0, .int w]) ++ List.replicate (2 - (lg_sl ([.ref m0, .int w])).length) Slot.unset).toArray = ls at hl ⊢
  replace hl : lv_has ls 2 [(0, .ref m0), (1, .int w)] := hl
  refine lv_iload_n hx hb dX8_most_0 rfl (lv_at hl 1 rfl) ?_
  refine lv_if_ne (tgt := 9) hx hb dX8_most_1 (by decide) (fun c_1 => ?_) (fun c_1 => ?_)
  · have fc_1 : w.toInt ≠ 0 := zf_ne c_1 rfl (by decide)
    refine lv_iload_n hx hb dX8_most_9 rfl (lv_at hl 1 rfl) ?_
    refine lv_iconst (v := 1) hx hb dX8_most_10 (by decide) ?_
    refine lv_icmp_ne (tgt := 20) hx hb dX8_most_11 (by decide) (fun c_2 => ?_) (fun c_2 => ?_)
    · have fc_2 : w.toInt ≠ 1 := zf_ne c_2 rfl (by decide)
      refine lv_iload_n hx hb dX8_most_20 rfl (lv_at hl 1 rfl) ?_
      refine lv_iconst (v := 2) hx hb dX8_most_21 (by decide) ?_
      refine lv_icmp_eq (tgt := 30) hx hb dX8_most_22 (by decide) (fun c_3 => ?_) (fun c_3 => ?_)
      · have fc_3 : w.toInt = 2 := zf_eq c_3 rfl (by decide)
        refine lv_bipush (v := 9) hx hb dX8_most_30 (by decide) ?_
        refine lv_goto (tgt := 50) hx hb dX8_most_32 (by decide) ?_
        exact W.iret (v := 9) hx hb hr (fun t ht hW => ⟨9, rfl, Or.inl (⟨rfl, (by first | omega | decide), (by first | omega | decide), (by first | omega | decide)⟩), ht⟩) (fun q hq => by cases hq) dX8_most_50
      · have fc_3 : w.toInt ≠ 2 := zf_ne c_3 rfl (by decide)
        refine lv_iload_n hx hb dX8_most_25 rfl (lv_at hl 1 rfl) ?_
        refine lv_iconst (v := 3) hx hb dX8_most_26 (by decide) ?_
        refine lv_icmp_ne (tgt := 35) hx hb dX8_most_27 (by decide) (fun c_4 => ?_) (fun c_4 => ?_)
        · have fc_4 : w.toInt ≠ 3 := zf_ne c_4 rfl (by decide)
          refine lv_iload_n hx hb dX8_most_35 rfl (lv_at hl 1 rfl) ?_
          refine lv_bipush (v := 7) hx hb dX8_most_36 (by decide) ?_
          refine lv_icmp_ne (tgt := 48) hx hb dX8_most_38 (by decide) (fun c_5 => ?_) (fun c_5 => ?_)
          · have fc_5 : w.toInt ≠ 7 := zf_ne c_5 rfl (by decide)
            refine lv_bipush (v := 99) hx hb dX8_most_48 (by decide) ?_
            exact W.iret (v := 99) hx hb hr (fun t ht hW => ⟨99, rfl, Or.inr (Or.inl (⟨rfl, (by first | omega | decide), (by first | omega | decide), (by first | omega | decide), (by first | omega | decide), (by first | omega | decide)⟩)), ht⟩) (fun q hq => by cases hq) dX8_most_50
          · have fc_5 : w.toInt = 7 := zf_eq c_5 rfl (by decide)
            refine lv_aload_n hx hb dX8_most_41 rfl (lv_at hl 0 rfl) ?_
            refine va_get (D := D) (ci := 8) (v := .int 20) (C := RX8) (T := TX8) (N := 38) hx hb hts hi_X8_most_8 hown hK hP 0 rfl rfl 1 (by decide) (hts (.fieldLink RX8 7 "TheLiningsInItModel" "teeth" "I") (List.mem_of_getElem? (i := 1) rfl)) (fun _ h9 => h9) rfl dX8_most_42 ?_
            refine lv_goto (tgt := 50) hx hb dX8_most_45 (by decide) ?_
            exact W.iret (v := 20) hx hb hr (fun t ht hW => ⟨20, rfl, Or.inr (Or.inr (Or.inl (⟨rfl, (by first | omega | decide), (by first | omega | decide), (by first | omega | decide), (by first | omega | decide), (by first | omega | decide)⟩))), ht⟩) (fun q hq => by cases hq) dX8_most_50
        · have fc_4 : w.toInt = 3 := zf_eq c_4 rfl (by decide)
          refine lv_bipush (v := 9) hx hb dX8_most_30 (by decide) ?_
          refine lv_goto (tgt := 50) hx hb dX8_most_32 (by decide) ?_
          exact W.iret (v := 9) hx hb hr (fun t ht hW => ⟨9, rfl, Or.inr (Or.inr (Or.inr (Or.inl (⟨rfl, (by first | omega | decide), (by first | omega | decide), (by first | omega | decide), (by first | omega | decide)⟩)))), ht⟩) (fun q hq => by cases hq) dX8_most_50
    · have fc_2 : w.toInt = 1 := zf_eq c_2 rfl (by decide)
      refine lv_sipush (v := 300) hx hb dX8_most_14 (by decide) ?_
      refine lv_goto (tgt := 50) hx hb dX8_most_17 (by decide) ?_
      exact W.iret (v := 300) hx hb hr (fun t ht hW => ⟨300, rfl, Or.inr (Or.inr (Or.inr (Or.inr (Or.inl (⟨rfl, (by first | omega | decide), (by first | omega | decide)⟩))))), ht⟩) (fun q hq => by cases hq) dX8_most_50
  · have fc_1 : w.toInt = 0 := zf_eq c_1 rfl (by decide)
    refine lv_bipush (v := 24) hx hb dX8_most_4 (by decide) ?_
    refine lv_goto (tgt := 50) hx hb dX8_most_6 (by decide) ?_
    exact W.iret (v := 24) hx hb hr (fun t ht hW => ⟨24, rfl, Or.inr (Or.inr (Or.inr (Or.inr (Or.inr (⟨rfl, (by first | omega | decide)⟩))))), ht⟩) (fun q hq => by cases hq) dX8_most_50
set_option maxHeartbeats 4000000 in
set_option maxRecDepth 100000 in
theorem c_M_isAsked (l : Launch) (D : va_G) (cI cJ cZ cP cS : ClassId) (m0 mrf mki mpa mta mla msl mco mhe mso msi msh mce mca mwo mnu mte mwa mke mma mth mtr : Nat) (w v : Int32) (hy0 : 0 ≤ w.toInt) (hy1 : w.toInt ≤ 7) : Met l yX8_isAsked wsX8_isAsked ({ frames := 1, cells := 0, slots := 0, locals := 21 }) (va_Pc [.ref m0, .int w, .int v] (zR D (zKT cI cJ cZ cP cS) [(m0, .inr (8, (.int 0 :: .int 20 :: .int 0 :: .int 0 :: .int 0 :: .int 60 :: .int 0 :: .int 3 :: .int 1 :: .int (-1) :: .ref mrf :: .ref mki :: .ref mpa :: .ref mta :: .ref mla :: .ref msl :: .ref mco :: .ref mhe :: .ref mso :: .ref msi :: .ref msh :: .ref mce :: .ref mca :: .ref mwo :: .ref mnu :: .ref mte :: .int 0 :: .int 0 :: .int 0 :: .int 0 :: .int 0 :: .ref mwa :: .ref mke :: .ref mma :: .ref mth :: .ref mtr :: .int 0 :: .int 0 :: [])))])) (vp_Si (fun r => (r = 0 ∧ w.toInt ≠ 3 ∧ v.toInt < 0) ∨ (r = 0 ∧ w.toInt ≠ 3 ∧ 0 ≤ v.toInt ∧ w.toInt ≠ 0 ∧ w.toInt ≠ 1 ∧ w.toInt = 2 ∧ 9 < v.toInt) ∨ (r = 1 ∧ w.toInt ≠ 3 ∧ 0 ≤ v.toInt ∧ w.toInt ≠ 0 ∧ w.toInt ≠ 1 ∧ w.toInt = 2 ∧ v.toInt ≤ 9) ∨ (r = 0 ∧ w.toInt ≠ 3 ∧ 0 ≤ v.toInt ∧ w.toInt ≠ 0 ∧ w.toInt ≠ 1 ∧ w.toInt ≠ 2 ∧ w.toInt ≠ 7 ∧ 99 < v.toInt) ∨ (r = 1 ∧ w.toInt ≠ 3 ∧ 0 ≤ v.toInt ∧ w.toInt ≠ 0 ∧ w.toInt ≠ 1 ∧ w.toInt ≠ 2 ∧ w.toInt ≠ 7 ∧ v.toInt ≤ 99) ∨ (r = 0 ∧ w.toInt ≠ 3 ∧ 0 ≤ v.toInt ∧ w.toInt ≠ 0 ∧ w.toInt ≠ 1 ∧ w.toInt ≠ 2 ∧ w.toInt = 7 ∧ 20 < v.toInt) ∨ (r = 1 ∧ w.toInt ≠ 3 ∧ 0 ≤ v.toInt ∧ w.toInt ≠ 0 ∧ w.toInt ≠ 1 ∧ w.toInt ≠ 2 ∧ w.toInt = 7 ∧ v.toInt ≤ 20) ∨ (r = 0 ∧ w.toInt ≠ 3 ∧ 0 ≤ v.toInt ∧ w.toInt ≠ 0 ∧ w.toInt ≠ 1 ∧ w.toInt ≠ 2 ∧ w.toInt = 3 ∧ 9 < v.toInt) ∨ (r = 1 ∧ w.toInt ≠ 3 ∧ 0 ≤ v.toInt ∧ w.toInt ≠ 0 ∧ w.toInt ≠ 1 ∧ w.toInt ≠ 2 ∧ w.toInt = 3 ∧ v.toInt ≤ 9) ∨ (r = 0 ∧ w.toInt ≠ 3 ∧ 0 ≤ v.toInt ∧ w.toInt ≠ 0 ∧ w.toInt = 1 ∧ 300 < v.toInt) ∨ (r = 1 ∧ w.toInt ≠ 3 ∧ 0 ≤ v.toInt ∧ w.toInt ≠ 0 ∧ w.toInt = 1 ∧ v.toInt ≤ 300) ∨ (r = 0 ∧ w.toInt ≠ 3 ∧ 0 ≤ v.toInt ∧ w.toInt = 0 ∧ 24 < v.toInt) ∨ (r = 1 ∧ w.toInt ≠ 3 ∧ 0 ≤ v.toInt ∧ w.toInt = 0 ∧ v.toInt ≤ 24) ∨ (r = 0 ∧ w.toInt = 3 ∧ v.toInt < 1) ∨ (r = 0 ∧ w.toInt = 3 ∧ 1 ≤ v.toInt ∧ 9 < v.toInt) ∨ (r = 1 ∧ w.toInt = 3 ∧ 1 ≤ v.toInt ∧ v.toInt ≤ 9))) 0 0 (fun _ => False) := by
  refine Met.ofW (cc := cX8_isAsked) (maxL := 3) (ret := (some .boolean)) (by decide) rfl ?_
  intro p e s m args below meth c s₁ B hml hv
  obtain ⟨rfl, hP, hK, hN, hZ⟩ := hv
  have hx := B.exec
  have hb := B.bytes
  have hr := B.returns
  have hts := atoms_spec (ws := wsX8_isAsked) B.pre
  have hown : s.vm.findClass RX8 = some m.cls := findClass_of_methodNamed B.named
  have hlocks := B.notSynchronized
  have hl := lv_entry ([.ref m0, .int w, .int v]) (n := 3) (Nat.le_of_ble_eq_true rfl)
  rw [lg_entry_eq]
  generalize (lg_sl ([.ref m0, .int w, .int v]) ++ List.replicate (3 - (lg_sl ([.ref m0, .int w, .int v])).length) Slot.unset).toArray = ls at hl ⊢
  replace hl : lv_has ls 3 [(0, .ref m0), (1, .int w), (2, .int v)] := hl
  refine lv_iload_n hx hb dX8_isAsked_0 rfl (lv_at hl 2 rfl) ?_
  refine lv_iload_n hx hb dX8_isAsked_1 rfl (lv_at hl 1 rfl) ?_
  refine lv_iconst (v := 3) hx hb dX8_isAsked_2 (by decide) ?_
  refine lv_icmp_ne (tgt := 10) hx hb dX8_isAsked_3 (by decide) (fun c_1 => ?_) (fun c_1 => ?_)
  · have fc_1 : w.toInt ≠ 3 := zf_ne c_1 rfl (by decide)
    refine lv_iconst (v := 0) hx hb dX8_isAsked_10 (by decide) ?_
    refine lv_icmp_lt (tgt := 27) hx hb dX8_isAsked_11 (by decide) (fun c_2 => ?_) (fun c_2 => ?_)
    · have fc_2 : v.toInt < 0 := zf_lt c_2 rfl (by decide)
      refine lv_iconst (v := 0) hx hb dX8_isAsked_27 (by decide) ?_
      exact W.zret (v := 0) hx hb hr (by decide) (fun t ht hW => ⟨0, rfl, Or.inl (⟨rfl, (by first | omega | decide), (by first | omega | decide)⟩), ht⟩) (fun q hq => by cases hq) dX8_isAsked_28
    · have fc_2 : 0 ≤ v.toInt := zf_nlt c_2 rfl (by decide)
      refine lv_iload_n hx hb dX8_isAsked_14 rfl (lv_at hl 2 rfl) ?_
      refine lv_aload_n hx hb dX8_isAsked_15 rfl (lv_at hl 0 rfl) ?_
      refine lv_iload_n hx hb dX8_isAsked_16 rfl (lv_at hl 1 rfl) ?_
      refine zc_V (As := [.int w]) (rest := [.int v]) ⟨hx, hb, hml, hown, hts⟩ (c_M_most l D cI cJ cZ cP cS m0 mrf mki mpa mta mla msl mco mhe mso msi msh mce mca mwo mnu mte mwa mke mma mth mtr (w) (by omega) (by omega)) (cwV 1 hts gX8_isAsked_X8_most rfl rfl rfl (by decide +kernel) ⟨Nat.le_of_ble_eq_true rfl, Nat.le_of_ble_eq_true rfl⟩) hK hN hZ hP [0] rfl (va_recv hK hP (ci := 8) (q0 := 0) rfl rfl) rfl hl.1 rfl (Nat.le_of_ble_eq_true rfl) dX8_isAsked_17 ⟨Nat.le_of_ble_eq_true rfl, Nat.le_of_ble_eq_true rfl⟩ (fun r_3 hr_3 => ?_)
      rcases hr_3 with ⟨rfl, g_4, g_5, g_6⟩ | ⟨rfl, g_7, g_8, g_9, g_10, g_11⟩ | ⟨rfl, g_12, g_13, g_14, g_15, g_16⟩ | ⟨rfl, g_17, g_18, g_19, g_20⟩ | ⟨rfl, g_21, g_22⟩ | ⟨rfl, g_23⟩
      · refine lv_icmp_gt (tgt := 27) hx hb dX8_isAsked_20 (by decide) (fun c_24 => ?_) (fun c_24 => ?_)
        · have fc_24 : 9 < v.toInt := zf_lt c_24 (by decide) rfl
          refine lv_iconst (v := 0) hx hb dX8_isAsked_27 (by decide) ?_
          exact W.zret (v := 0) hx hb hr (by decide) (fun t ht hW => ⟨0, rfl, Or.inr (Or.inl (⟨rfl, (by first | omega | decide), (by first | omega | decide), (by first | omega | decide), (by first | omega | decide), (by first | omega | decide), (by first | omega | decide)⟩)), ht⟩) (fun q hq => by cases hq) dX8_isAsked_28
        · have fc_24 : v.toInt ≤ 9 := zf_nlt c_24 (by decide) rfl
          refine lv_iconst (v := 1) hx hb dX8_isAsked_23 (by decide) ?_
          refine lv_goto (tgt := 28) hx hb dX8_isAsked_24 (by decide) ?_
          exact W.zret (v := 1) hx hb hr (by decide) (fun t ht hW => ⟨1, rfl, Or.inr (Or.inr (Or.inl (⟨rfl, (by first | omega | decide), (by first | omega | decide), (by first | omega | decide), (by first | omega | decide), (by first | omega | decide), (by first | omega | decide)⟩))), ht⟩) (fun q hq => by cases hq) dX8_isAsked_28
      · refine lv_icmp_gt (tgt := 27) hx hb dX8_isAsked_20 (by decide) (fun c_25 => ?_) (fun c_25 => ?_)
        · have fc_25 : 99 < v.toInt := zf_lt c_25 (by decide) rfl
          refine lv_iconst (v := 0) hx hb dX8_isAsked_27 (by decide) ?_
          exact W.zret (v := 0) hx hb hr (by decide) (fun t ht hW => ⟨0, rfl, Or.inr (Or.inr (Or.inr (Or.inl (⟨rfl, (by first | omega | decide), (by first | omega | decide), (by first | omega | decide), (by first | omega | decide), (by first | omega | decide), (by first | omega | decide), (by first | omega | decide)⟩)))), ht⟩) (fun q hq => by cases hq) dX8_isAsked_28
        · have fc_25 : v.toInt ≤ 99 := zf_nlt c_25 (by decide) rfl
          refine lv_iconst (v := 1) hx hb dX8_isAsked_23 (by decide) ?_
          refine lv_goto (tgt := 28) hx hb dX8_isAsked_24 (by decide) ?_
          exact W.zret (v := 1) hx hb hr (by decide) (fun t ht hW => ⟨1, rfl, Or.inr (Or.inr (Or.inr (Or.inr (Or.inl (⟨rfl, (by first | omega | decide), (by first | omega | decide), (by first | omega | decide), (by first | omega | decide), (by first | omega | decide), (by first | omega | decide), (by first | omega | decide)⟩))))), ht⟩) (fun q hq => by cases hq) dX8_isAsked_28
      · refine lv_icmp_gt (tgt := 27) hx hb dX8_isAsked_20 (by decide) (fun c_26 => ?_) (fun c_26 => ?_)
        · have fc_26 : 20 < v.toInt := zf_lt c_26 (by decide) rfl
          refine lv_iconst (v := 0) hx hb dX8_isAsked_27 (by decide) ?_
          exact W.zret (v := 0) hx hb hr (by decide) (fun t ht hW => ⟨0, rfl, Or.inr (Or.inr (Or.inr (Or.inr (Or.inr (Or.inl (⟨rfl, (by first | omega | decide), (by first | omega | decide), (by first | omega | decide), (by first | omega | decide), (by first | omega | decide), (by first | omega | decide), (by first | omega | decide)⟩)))))), ht⟩) (fun q hq => by cases hq) dX8_isAsked_28
        · have fc_26 : v.toInt ≤ 20 := zf_nlt c_26 (by decide) rfl
          refine lv_iconst (v := 1) hx hb dX8_isAsked_23 (by decide) ?_
          refine lv_goto (tgt := 28) hx hb dX8_isAsked_24 (by decide) ?_
          exact W.zret (v := 1) hx hb hr (by decide) (fun t ht hW => ⟨1, rfl, Or.inr (Or.inr (Or.inr (Or.inr (Or.inr (Or.inr (Or.inl (⟨rfl, (by first | omega | decide), (by first | omega | decide), (by first | omega | decide), (by first | omega | decide), (by first | omega | decide), (by first | omega | decide), (by first | omega | decide)⟩))))))), ht⟩) (fun q hq => by cases hq) dX8_isAsked_28
      · refine lv_icmp_gt (tgt := 27) hx hb dX8_isAsked_20 (by decide) (fun c_27 => ?_) (fun c_27 => ?_)
        · have fc_27 : 9 < v.toInt := zf_lt c_27 (by decide) rfl
          refine lv_iconst (v := 0) hx hb dX8_isAsked_27 (by decide) ?_
          exact W.zret (v := 0) hx hb hr (by decide) (fun t ht hW => ⟨0, rfl, Or.inr (Or.inr (Or.inr (Or.inr (Or.inr (Or.inr (Or.inr (Or.inl (⟨rfl, (by first | omega | decide), (by first | omega | decide), (by first | omega | decide), (by first | omega | decide), (by first | omega | decide), (by first | omega | decide), (by first | omega | decide)⟩)))))))), ht⟩) (fun q hq => by cases hq) dX8_isAsked_28
        · have fc_27 : v.toInt ≤ 9 := zf_nlt c_27 (by decide) rfl
          refine lv_iconst (v := 1) hx hb dX8_isAsked_23 (by decide) ?_
          refine lv_goto (tgt := 28) hx hb dX8_isAsked_24 (by decide) ?_
          exact W.zret (v := 1) hx hb hr (by decide) (fun t ht hW => ⟨1, rfl, Or.inr (Or.inr (Or.inr (Or.inr (Or.inr (Or.inr (Or.inr (Or.inr (Or.inl (⟨rfl, (by first | omega | decide), (by first | omega | decide), (by first | omega | decide), (by first | omega | decide), (by first | omega | decide), (by first | omega | decide), (by first | omega | decide)⟩))))))))), ht⟩) (fun q hq => by cases hq) dX8_isAsked_28
      · refine lv_icmp_gt (tgt := 27) hx hb dX8_isAsked_20 (by decide) (fun c_28 => ?_) (fun c_28 => ?_)
        · have fc_28 : 300 < v.toInt := zf_lt c_28 (by decide) rfl
          refine lv_iconst (v := 0) hx hb dX8_isAsked_27 (by decide) ?_
          exact W.zret (v := 0) hx hb hr (by decide) (fun t ht hW => ⟨0, rfl, Or.inr (Or.inr (Or.inr (Or.inr (Or.inr (Or.inr (Or.inr (Or.inr (Or.inr (Or.inl (⟨rfl, (by first | omega | decide), (by first | omega | decide), (by first | omega | decide), (by first | omega | decide), (by first | omega | decide)⟩)))))))))), ht⟩) (fun q hq => by cases hq) dX8_isAsked_28
        · have fc_28 : v.toInt ≤ 300 := zf_nlt c_28 (by decide) rfl
          refine lv_iconst (v := 1) hx hb dX8_isAsked_23 (by decide) ?_
          refine lv_goto (tgt := 28) hx hb dX8_isAsked_24 (by decide) ?_
          exact W.zret (v := 1) hx hb hr (by decide) (fun t ht hW => ⟨1, rfl, Or.inr (Or.inr (Or.inr (Or.inr (Or.inr (Or.inr (Or.inr (Or.inr (Or.inr (Or.inr (Or.inl (⟨rfl, (by first | omega | decide), (by first | omega | decide), (by first | omega | decide), (by first | omega | decide), (by first | omega | decide)⟩))))))))))), ht⟩) (fun q hq => by cases hq) dX8_isAsked_28
      · refine lv_icmp_gt (tgt := 27) hx hb dX8_isAsked_20 (by decide) (fun c_29 => ?_) (fun c_29 => ?_)
        · have fc_29 : 24 < v.toInt := zf_lt c_29 (by decide) rfl
          refine lv_iconst (v := 0) hx hb dX8_isAsked_27 (by decide) ?_
          exact W.zret (v := 0) hx hb hr (by decide) (fun t ht hW => ⟨0, rfl, Or.inr (Or.inr (Or.inr (Or.inr (Or.inr (Or.inr (Or.inr (Or.inr (Or.inr (Or.inr (Or.inr (Or.inl (⟨rfl, (by first | omega | decide), (by first | omega | decide), (by first | omega | decide), (by first | omega | decide)⟩)))))))))))), ht⟩) (fun q hq => by cases hq) dX8_isAsked_28
        · have fc_29 : v.toInt ≤ 24 := zf_nlt c_29 (by decide) rfl
          refine lv_iconst (v := 1) hx hb dX8_isAsked_23 (by decide) ?_
          refine lv_goto (tgt := 28) hx hb dX8_isAsked_24 (by decide) ?_
          exact W.zret (v := 1) hx hb hr (by decide) (fun t ht hW => ⟨1, rfl, Or.inr (Or.inr (Or.inr (Or.inr (Or.inr (Or.inr (Or.inr (Or.inr (Or.inr (Or.inr (Or.inr (Or.inr (Or.inl (⟨rfl, (by first | omega | decide), (by first | omega | decide), (by first | omega | decide), (by first | omega | decide)⟩))))))))))))), ht⟩) (fun q hq => by cases hq) dX8_isAsked_28
  · have fc_1 : w.toInt = 3 := zf_eq c_1 rfl (by decide)
    refine lv_iconst (v := 1) hx hb dX8_isAsked_6 (by decide) ?_
    refine lv_goto (tgt := 11) hx hb dX8_isAsked_7 (by decide) ?_
    refine lv_icmp_lt (tgt := 27) hx hb dX8_isAsked_11 (by decide) (fun c_30 => ?_) (fun c_30 => ?_)
    · have fc_30 : v.toInt < 1 := zf_lt c_30 rfl (by decide)
      refine lv_iconst (v := 0) hx hb dX8_isAsked_27 (by decide) ?_
      exact W.zret (v := 0) hx hb hr (by decide) (fun t ht hW => ⟨0, rfl, Or.inr (Or.inr (Or.inr (Or.inr (Or.inr (Or.inr (Or.inr (Or.inr (Or.inr (Or.inr (Or.inr (Or.inr (Or.inr (Or.inl (⟨rfl, (by first | omega | decide), (by first | omega | decide)⟩)))))))))))))), ht⟩) (fun q hq => by cases hq) dX8_isAsked_28
    · have fc_30 : 1 ≤ v.toInt := zf_nlt c_30 rfl (by decide)
      refine lv_iload_n hx hb dX8_isAsked_14 rfl (lv_at hl 2 rfl) ?_
      refine lv_aload_n hx hb dX8_isAsked_15 rfl (lv_at hl 0 rfl) ?_
      refine lv_iload_n hx hb dX8_isAsked_16 rfl (lv_at hl 1 rfl) ?_
      refine zc_V (As := [.int w]) (rest := [.int v]) ⟨hx, hb, hml, hown, hts⟩ (c_M_most l D cI cJ cZ cP cS m0 mrf mki mpa mta mla msl mco mhe mso msi msh mce mca mwo mnu mte mwa mke mma mth mtr (w) (by omega) (by omega)) (cwV 1 hts gX8_isAsked_X8_most rfl rfl rfl (by decide +kernel) ⟨Nat.le_of_ble_eq_true rfl, Nat.le_of_ble_eq_true rfl⟩) hK hN hZ hP [0] rfl (va_recv hK hP (ci := 8) (q0 := 0) rfl rfl) rfl hl.1 rfl (Nat.le_of_ble_eq_true rfl) dX8_isAsked_17 ⟨Nat.le_of_ble_eq_true rfl, Nat.le_of_ble_eq_true rfl⟩ (fun r_31 hr_31 => ?_)
      rcases hr_31 with ⟨rfl, g_32, g_33, g_34⟩ | ⟨rfl, g_35, g_36, g_37, g_38, g_39⟩ | ⟨rfl, g_40, g_41, g_42, g_43, g_44⟩ | ⟨rfl, g_45, g_46, g_47, g_48⟩ | ⟨rfl, g_49, g_50⟩ | ⟨rfl, g_51⟩
      · exfalso; omega
      · exfalso; omega
      · exfalso; omega
      · refine lv_icmp_gt (tgt := 27) hx hb dX8_isAsked_20 (by decide) (fun c_52 => ?_) (fun c_52 => ?_)
        · have fc_52 : 9 < v.toInt := zf_lt c_52 (by decide) rfl
          refine lv_iconst (v := 0) hx hb dX8_isAsked_27 (by decide) ?_
          exact W.zret (v := 0) hx hb hr (by decide) (fun t ht hW => ⟨0, rfl, Or.inr (Or.inr (Or.inr (Or.inr (Or.inr (Or.inr (Or.inr (Or.inr (Or.inr (Or.inr (Or.inr (Or.inr (Or.inr (Or.inr (Or.inl (⟨rfl, (by first | omega | decide), (by first | omega | decide), (by first | omega | decide)⟩))))))))))))))), ht⟩) (fun q hq => by cases hq) dX8_isAsked_28
        · have fc_52 : v.toInt ≤ 9 := zf_nlt c_52 (by decide) rfl
          refine lv_iconst (v := 1) hx hb dX8_isAsked_23 (by decide) ?_
          refine lv_goto (tgt := 28) hx hb dX8_isAsked_24 (by decide) ?_
          exact W.zret (v := 1) hx hb hr (by decide) (fun t ht hW => ⟨1, rfl, Or.inr (Or.inr (Or.inr (Or.inr (Or.inr (Or.inr (Or.inr (Or.inr (Or.inr (Or.inr (Or.inr (Or.inr (Or.inr (Or.inr (Or.inr (⟨rfl, (by first | omega | decide), (by first | omega | decide), (by first | omega | decide)⟩))))))))))))))), ht⟩) (fun q hq => by cases hq) dX8_isAsked_28
      · exfalso; omega
      · exfalso; omega
theorem hi_X8_told_8 : ∀ w ∈ u_ws RX8 TX8 38, w ∈ wsX8_told := by decide +kernel
set_option maxHeartbeats 4000000 in
set_option maxRecDepth 100000 in
theorem c_M_told (l : Launch) (D : va_G) (cI cJ cZ cP cS : ClassId) (m0 mrf mki mpa mta mla msl mco mhe mso msi msh mce mca mwo mnu mte mwa mke mma mth mtr : Nat) (w : Int32) (hy0 : 0 ≤ w.toInt) (hy1 : w.toInt ≤ 7) : Met l yX8_told wsX8_told ({ frames := 0, cells := 0, slots := 0, locals := 0 }) (va_Pc [.ref m0, .int w] (zR D (zKT cI cJ cZ cP cS) [(m0, .inr (8, (.int 0 :: .int 20 :: .int 0 :: .int 0 :: .int 0 :: .int 60 :: .int 0 :: .int 3 :: .int 1 :: .int (-1) :: .ref mrf :: .ref mki :: .ref mpa :: .ref mta :: .ref mla :: .ref msl :: .ref mco :: .ref mhe :: .ref mso :: .ref msi :: .ref msh :: .ref mce :: .ref mca :: .ref mwo :: .ref mnu :: .ref mte :: .int 0 :: .int 0 :: .int 0 :: .int 0 :: .int 0 :: .ref mwa :: .ref mke :: .ref mma :: .ref mth :: .ref mtr :: .int 0 :: .int 0 :: []))), (mco, .inl (cI, 3, .inl (zL3 5 10 50)))])) (vp_Si (fun r => (r = 0 ∧ w.toInt = 0) ∨ (r = 60 ∧ w.toInt = 1) ∨ (r = 0 ∧ w.toInt = 2) ∨ (r = 3 ∧ w.toInt = 3) ∨ (r = 5 ∧ w.toInt = 4) ∨ (r = 10 ∧ w.toInt = 5) ∨ (r = 50 ∧ w.toInt = 6) ∨ (r = 0 ∧ w.toInt = 7))) 0 0 (fun _ => False) := by
  refine Met.ofW (cc := cX8_told) (maxL := 2) (ret := (some .int)) (by decide) rfl ?_
  intro p e s m args below meth c s₁ B hml hv
  obtain ⟨rfl, hP, hK, hN, hZ⟩ := hv
  have hx := B.exec
  have hb := B.bytes
  have hr := B.returns
  have hts := atoms_spec (ws := wsX8_told) B.pre
  have hown : s.vm.findClass RX8 = some m.cls := findClass_of_methodNamed B.named
  have hlocks := B.notSynchronized
  have hl := lv_entry ([.ref m0, .int w]) (n := 2) (Nat.le_of_ble_eq_true rfl)
  rw [lg_entry_eq]
  generalize (lg_sl ([.ref m0, .int w]) ++ List.replicate (2 - (lg_sl ([.ref m0, .int w])).length) Slot.unset).toArray = ls at hl ⊢
  replace hl : lv_has ls 2 [(0, .ref m0), (1, .int w)] := hl
  refine lv_iload_n hx hb dX8_told_0 rfl (lv_at hl 1 rfl) ?_
  have hsp : w = 0 ∨ w = 1 ∨ w = 2 ∨ w = 3 ∨ w = 4 ∨ w = 5 ∨ w = 6 ∨ w = 7 := by
    rcases (show w.toInt = 0 ∨ w.toInt = 1 ∨ w.toInt = 2 ∨ w.toInt = 3 ∨ w.toInt = 4 ∨ w.toInt = 5 ∨ w.toInt = 6 ∨ w.toInt = 7 by omega) with h9 | h9 | h9 | h9 | h9 | h9 | h9 | h9
    · refine Or.inl ?_; exact zf_val h9 (by decide)
    · refine Or.inr (Or.inl ?_); exact zf_val h9 (by decide)
    · refine Or.inr (Or.inr (Or.inl ?_)); exact zf_val h9 (by decide)
    · refine Or.inr (Or.inr (Or.inr (Or.inl ?_))); exact zf_val h9 (by decide)
    · refine Or.inr (Or.inr (Or.inr (Or.inr (Or.inl ?_)))); exact zf_val h9 (by decide)
    · refine Or.inr (Or.inr (Or.inr (Or.inr (Or.inr (Or.inl ?_))))); exact zf_val h9 (by decide)
    · refine Or.inr (Or.inr (Or.inr (Or.inr (Or.inr (Or.inr (Or.inl ?_)))))); exact zf_val h9 (by decide)
    · refine Or.inr (Or.inr (Or.inr (Or.inr (Or.inr (Or.inr (Or.inr (?_))))))); exact zf_val h9 (by decide)
  rcases hsp with rfl | rfl | rfl | rfl | rfl | rfl | rfl | rfl
  · refine lv_tableIn (tgt := 48) hx hb dX8_told_1 (by decide) (by decide) rfl (by decide) ?_
    refine lv_aload_n hx hb dX8_told_48 rfl (lv_at hl 0 rfl) ?_
    refine va_get (D := D) (ci := 8) (v := .int 0) (C := RX8) (T := TX8) (N := 38) hx hb hts hi_X8_told_8 hown hK hP 0 rfl rfl 3 (by decide) (hts (.fieldLink RX8 115 "TheLiningsInItModel" "depth" "I") (List.mem_of_getElem? (i := 1) rfl)) (fun _ h9 => h9) rfl dX8_told_49 ?_
    exact W.iret (v := 0) hx hb hr (fun t ht hW => ⟨0, rfl, Or.inl (⟨rfl, (by first | omega | decide)⟩), ht⟩) (fun q hq => by cases hq) dX8_told_52
  · refine lv_tableIn (tgt := 53) hx hb dX8_told_1 (by decide) (by decide) rfl (by decide) ?_
    refine lv_aload_n hx hb dX8_told_53 rfl (lv_at hl 0 rfl) ?_
    refine va_get (D := D) (ci := 8) (v := .int 60) (C := RX8) (T := TX8) (N := 38) hx hb hts hi_X8_told_8 hown hK hP 0 rfl rfl 5 (by decide) (hts (.fieldLink RX8 13 "TheLiningsInItModel" "seconds" "I") (List.mem_of_getElem? (i := 2) rfl)) (fun _ h9 => h9) rfl dX8_told_54 ?_
    exact W.iret (v := 60) hx hb hr (fun t ht hW => ⟨60, rfl, Or.inr (Or.inl (⟨rfl, (by first | omega | decide)⟩)), ht⟩) (fun q hq => by cases hq) dX8_told_57
  · refine lv_tableIn (tgt := 58) hx hb dX8_told_1 (by decide) (by decide) rfl (by decide) ?_
    refine lv_aload_n hx hb dX8_told_58 rfl (lv_at hl 0 rfl) ?_
    refine va_get (D := D) (ci := 8) (v := .int 0) (C := RX8) (T := TX8) (N := 38) hx hb hts hi_X8_told_8 hown hK hP 0 rfl rfl 6 (by decide) (hts (.fieldLink RX8 135 "TheLiningsInItModel" "hurry" "I") (List.mem_of_getElem? (i := 3) rfl)) (fun _ h9 => h9) rfl dX8_told_59 ?_
    exact W.iret (v := 0) hx hb hr (fun t ht hW => ⟨0, rfl, Or.inr (Or.inr (Or.inl (⟨rfl, (by first | omega | decide)⟩))), ht⟩) (fun q hq => by cases hq) dX8_told_62
  · refine lv_tableIn (tgt := 63) hx hb dX8_told_1 (by decide) (by decide) rfl (by decide) ?_
    refine lv_aload_n hx hb dX8_told_63 rfl (lv_at hl 0 rfl) ?_
    refine va_get (D := D) (ci := 8) (v := .int 3) (C := RX8) (T := TX8) (N := 38) hx hb hts hi_X8_told_8 hown hK hP 0 rfl rfl 7 (by decide) (hts (.fieldLink RX8 16 "TheLiningsInItModel" "gap" "I") (List.mem_of_getElem? (i := 4) rfl)) (fun _ h9 => h9) rfl dX8_told_64 ?_
    exact W.iret (v := 3) hx hb hr (fun t ht hW => ⟨3, rfl, Or.inr (Or.inr (Or.inr (Or.inl (⟨rfl, (by first | omega | decide)⟩)))), ht⟩) (fun q hq => by cases hq) dX8_told_67
  · refine lv_tableIn (tgt := 73) hx hb dX8_told_1 (by decide) (by decide) rfl (by decide) ?_
    refine lv_aload_n hx hb dX8_told_73 rfl (lv_at hl 0 rfl) ?_
    refine va_get (D := D) (ci := 8) (v := .ref mco) (C := RX8) (T := TX8) (N := 38) hx hb hts hi_X8_told_8 hown hK hP 0 rfl rfl 16 (by decide) (hts (.fieldLink RX8 44 "TheLiningsInItModel" "cost" "[I") (List.mem_of_getElem? (i := 6) rfl)) (fun _ h9 => h9) rfl dX8_told_74 ?_
    refine lv_iload_n hx hb dX8_told_77 rfl (lv_at hl 1 rfl) ?_
    refine lv_iconst (v := 4) hx hb dX8_told_78 (by decide) ?_
    refine lv_isub hx hb dX8_told_79 ?_
    refine lv_topi (fun y_1 ey_1 => ?_)
    obtain rfl : y_1 = 0 := ey_1.trans (by decide)
    refine va_iald hx hb hK hP 1 0 rfl rfl (zf_in (by decide) (by decide)) dX8_told_80 ?_
    refine lv_topi (fun x_2 ex_2 => ?_)
    obtain rfl : x_2 = 5 := ex_2
    exact W.iret (v := 5) hx hb hr (fun t ht hW => ⟨5, rfl, Or.inr (Or.inr (Or.inr (Or.inr (Or.inl (⟨rfl, (by first | omega | decide)⟩))))), ht⟩) (fun q hq => by cases hq) dX8_told_81
  · refine lv_tableIn (tgt := 73) hx hb dX8_told_1 (by decide) (by decide) rfl (by decide) ?_
    refine lv_aload_n hx hb dX8_told_73 rfl (lv_at hl 0 rfl) ?_
    refine va_get (D := D) (ci := 8) (v := .ref mco) (C := RX8) (T := TX8) (N := 38) hx hb hts hi_X8_told_8 hown hK hP 0 rfl rfl 16 (by decide) (hts (.fieldLink RX8 44 "TheLiningsInItModel" "cost" "[I") (List.mem_of_getElem? (i := 6) rfl)) (fun _ h9 => h9) rfl dX8_told_74 ?_
    refine lv_iload_n hx hb dX8_told_77 rfl (lv_at hl 1 rfl) ?_
    refine lv_iconst (v := 4) hx hb dX8_told_78 (by decide) ?_
    refine lv_isub hx hb dX8_told_79 ?_
    refine lv_topi (fun y_3 ey_3 => ?_)
    obtain rfl : y_3 = 1 := ey_3.trans (by decide)
    refine va_iald hx hb hK hP 1 0 rfl rfl (zf_in (by decide) (by decide)) dX8_told_80 ?_
    refine lv_topi (fun x_4 ex_4 => ?_)
    obtain rfl : x_4 = 10 := ex_4
    exact W.iret (v := 10) hx hb hr (fun t ht hW => ⟨10, rfl, Or.inr (Or.inr (Or.inr (Or.inr (Or.inr (Or.inl (⟨rfl, (by first | omega | decide)⟩)))))), ht⟩) (fun q hq => by cases hq) dX8_told_81
  · refine lv_tableIn (tgt := 73) hx hb dX8_told_1 (by decide) (by decide) rfl (by decide) ?_
    refine lv_aload_n hx hb dX8_told_73 rfl (lv_at hl 0 rfl) ?_
    refine va_get (D := D) (ci := 8) (v := .ref mco) (C := RX8) (T := TX8) (N := 38) hx hb hts hi_X8_told_8 hown hK hP 0 rfl rfl 16 (by decide) (hts (.fieldLink RX8 44 "TheLiningsInItModel" "cost" "[I") (List.mem_of_getElem? (i := 6) rfl)) (fun _ h9 => h9) rfl dX8_told_74 ?_
    refine lv_iload_n hx hb dX8_told_77 rfl (lv_at hl 1 rfl) ?_
    refine lv_iconst (v := 4) hx hb dX8_told_78 (by decide) ?_
    refine lv_isub hx hb dX8_told_79 ?_
    refine lv_topi (fun y_5 ey_5 => ?_)
    obtain rfl : y_5 = 2 := ey_5.trans (by decide)
    refine va_iald hx hb hK hP 1 0 rfl rfl (zf_in (by decide) (by decide)) dX8_told_80 ?_
    refine lv_topi (fun x_6 ex_6 => ?_)
    obtain rfl : x_6 = 50 := ex_6
    exact W.iret (v := 50) hx hb hr (fun t ht hW => ⟨50, rfl, Or.inr (Or.inr (Or.inr (Or.inr (Or.inr (Or.inr (Or.inl (⟨rfl, (by first | omega | decide)⟩))))))), ht⟩) (fun q hq => by cases hq) dX8_told_81
  · refine lv_tableIn (tgt := 68) hx hb dX8_told_1 (by decide) (by decide) rfl (by decide) ?_
    refine lv_aload_n hx hb dX8_told_68 rfl (lv_at hl 0 rfl) ?_
    refine va_get (D := D) (ci := 8) (v := .int 0) (C := RX8) (T := TX8) (N := 38) hx hb hts hi_X8_told_8 hown hK hP 0 rfl rfl 2 (by decide) (hts (.fieldLink RX8 122 "TheLiningsInItModel" "at" "I") (List.mem_of_getElem? (i := 5) rfl)) (fun _ h9 => h9) rfl dX8_told_69 ?_
    exact W.iret (v := 0) hx hb hr (fun t ht hW => ⟨0, rfl, Or.inr (Or.inr (Or.inr (Or.inr (Or.inr (Or.inr (Or.inr (⟨rfl, (by first | omega | decide)⟩))))))), ht⟩) (fun q hq => by cases hq) dX8_told_72
theorem hi_X8_tells_8 : ∀ w ∈ u_ws RX8 TX8 38, w ∈ wsX8_tells := by decide +kernel
set_option maxHeartbeats 4000000 in
set_option maxRecDepth 100000 in
theorem c_M_tells (l : Launch) (D : va_G) (cI cJ cZ cP cS : ClassId) (m0 mrf mki mpa mta mla msl mco mhe mso msi msh mce mca mwo mnu mte mwa mke mma mth mtr : Nat) (w v : Int32) (hy0 : 0 ≤ w.toInt) (hy1 : w.toInt ≤ 7) (sz : Nat) : Met l yX8_tells wsX8_tells ({ frames := 0, cells := 0, slots := 0, locals := 0 }) (va_Pc [.ref m0, .int w, .int v] (zW D (zKT cI cJ cZ cP cS) [(m0, .inr (8, (.int 0 :: .int 20 :: .int 0 :: .int 0 :: .int 0 :: .int 60 :: .int 0 :: .int 3 :: .int 1 :: .int (-1) :: .ref mrf :: .ref mki :: .ref mpa :: .ref mta :: .ref mla :: .ref msl :: .ref mco :: .ref mhe :: .ref mso :: .ref msi :: .ref msh :: .ref mce :: .ref mca :: .ref mwo :: .ref mnu :: .ref mte :: .int 0 :: .int 0 :: .int 0 :: .int 0 :: .int 0 :: .ref mwa :: .ref mke :: .ref mma :: .ref mth :: .ref mtr :: .int 0 :: .int 0 :: []))), (mco, .inl (cI, 3, .inl (zL3 5 10 50)))] sz)) (va_Qv (fun (_ : Unit) => (w.toInt = 0) ∨ (w.toInt = 1) ∨ (w.toInt = 2) ∨ (w.toInt = 3) ∨ (w.toInt = 4) ∨ (w.toInt = 5) ∨ (w.toInt = 6) ∨ (w.toInt = 7)) (zB D [(m0, .inr (8, (.int 0 :: .int 20 :: .int 0 :: .int 0 :: .int 0 :: .int 60 :: .int 0 :: .int 3 :: .int 1 :: .int (-1) :: .ref mrf :: .ref mki :: .ref mpa :: .ref mta :: .ref mla :: .ref msl :: .ref mco :: .ref mhe :: .ref mso :: .ref msi :: .ref msh :: .ref mce :: .ref mca :: .ref mwo :: .ref mnu :: .ref mte :: .int 0 :: .int 0 :: .int 0 :: .int 0 :: .int 0 :: .ref mwa :: .ref mke :: .ref mma :: .ref mth :: .ref mtr :: .int 0 :: .int 0 :: []))), (mco, .inl (cI, 3, .inl (zL3 5 10 50)))] sz (fun (_ : Unit) => ([] : va_W))) (va_A [(m0, .inr (8, (.int 0 :: .int 20 :: .int 0 :: .int 0 :: .int 0 :: .int 60 :: .int 0 :: .int 3 :: .int 1 :: .int (-1) :: .ref mrf :: .ref mki :: .ref mpa :: .ref mta :: .ref mla :: .ref msl :: .ref mco :: .ref mhe :: .ref mso :: .ref msi :: .ref msh :: .ref mce :: .ref mca :: .ref mwo :: .ref mnu :: .ref mte :: .int 0 :: .int 0 :: .int 0 :: .int 0 :: .int 0 :: .ref mwa :: .ref mke :: .ref mma :: .ref mth :: .ref mtr :: .int 0 :: .int 0 :: []))), (mco, .inl (cI, 3, .inl (zL3 5 10 50)))] sz)) 0 0 (va_A [(m0, .inr (8, (.int 0 :: .int 20 :: .int 0 :: .int 0 :: .int 0 :: .int 60 :: .int 0 :: .int 3 :: .int 1 :: .int (-1) :: .ref mrf :: .ref mki :: .ref mpa :: .ref mta :: .ref mla :: .ref msl :: .ref mco :: .ref mhe :: .ref mso :: .ref msi :: .ref msh :: .ref mce :: .ref mca :: .ref mwo :: .ref mnu :: .ref mte :: .int 0 :: .int 0 :: .int 0 :: .int 0 :: .int 0 :: .ref mwa :: .ref mke :: .ref mma :: .ref mth :: .ref mtr :: .int 0 :: .int 0 :: []))), (mco, .inl (cI, 3, .inl (zL3 5 10 50)))] sz) := by
  refine Met.ofW (cc := cX8_tells) (maxL := 3) (ret := none) (by decide) rfl ?_
  intro p e s m args below meth c s₁ B hml hv
  obtain ⟨rfl, hsz, hP, hK, hD0, hN, hZ⟩ := hv
  have hx := B.exec
  have hb := B.bytes
  have hr := B.returns
  have hts := atoms_spec (ws := wsX8_tells) B.pre
  have hown : s.vm.findClass RX8 = some m.cls := findClass_of_methodNamed B.named
  have hlocks := B.notSynchronized
  subst hsz
  have hD := hD0.self (sz := s.heap.size)
  have hA : ∀ q : Nat, s.heap.size ≤ q → va_A [(m0, .inr (8, (.int 0 :: .int 20 :: .int 0 :: .int 0 :: .int 0 :: .int 60 :: .int 0 :: .int 3 :: .int 1 :: .int (-1) :: .ref mrf :: .ref mki :: .ref mpa :: .ref mta :: .ref mla :: .ref msl :: .ref mco :: .ref mhe :: .ref mso :: .ref msi :: .ref msh :: .ref mce :: .ref mca :: .ref mwo :: .ref mnu :: .ref mte :: .int 0 :: .int 0 :: .int 0 :: .int 0 :: .int 0 :: .ref mwa :: .ref mke :: .ref mma :: .ref mth :: .ref mtr :: .int 0 :: .int 0 :: []))), (mco, .inl (cI, 3, .inl (zL3 5 10 50)))] s.heap.size q := fun q h => Or.inr h
  have hS : va_S (va_A [(m0, .inr (8, (.int 0 :: .int 20 :: .int 0 :: .int 0 :: .int 0 :: .int 60 :: .int 0 :: .int 3 :: .int 1 :: .int (-1) :: .ref mrf :: .ref mki :: .ref mpa :: .ref mta :: .ref mla :: .ref msl :: .ref mco :: .ref mhe :: .ref mso :: .ref msi :: .ref msh :: .ref mce :: .ref mca :: .ref mwo :: .ref mnu :: .ref mte :: .int 0 :: .int 0 :: .int 0 :: .int 0 :: .int 0 :: .ref mwa :: .ref mke :: .ref mma :: .ref mth :: .ref mtr :: .int 0 :: .int 0 :: []))), (mco, .inl (cI, 3, .inl (zL3 5 10 50)))] s.heap.size) s.heap s.heap [] := va_S.rf
  replace hP : va_P D vwCl _ s.heap := hP
  have hl := lv_entry ([.ref m0, .int w, .int v]) (n := 3) (Nat.le_of_ble_eq_true rfl)
  rw [lg_entry_eq]
  generalize (lg_sl ([.ref m0, .int w, .int v]) ++ List.replicate (3 - (lg_sl ([.ref m0, .int w, .int v])).length) Slot.unset).toArray = ls at hl ⊢
  replace hl : lv_has ls 3 [(0, .ref m0), (1, .int w), (2, .int v)] := hl
  refine zw_start (fun H locs hH hL => ?_)
  replace hP : va_P D vwCl [(m0, .inr (8, (.int 0 :: .int 20 :: .int 0 :: .int 0 :: .int 0 :: .int 60 :: .int 0 :: .int 3 :: .int 1 :: .int (-1) :: .ref mrf :: .ref mki :: .ref mpa :: .ref mta :: .ref mla :: .ref msl :: .ref mco :: .ref mhe :: .ref mso :: .ref msi :: .ref msh :: .ref mce :: .ref mca :: .ref mwo :: .ref mnu :: .ref mte :: .int 0 :: .int 0 :: .int 0 :: .int 0 :: .int 0 :: .ref mwa :: .ref mke :: .ref mma :: .ref mth :: .ref mtr :: .int 0 :: .int 0 :: []))), (mco, .inl (cI, 3, .inl (zL3 5 10 50)))] H := by rw [hH]; exact hP
  replace hS : va_S (va_A [(m0, .inr (8, (.int 0 :: .int 20 :: .int 0 :: .int 0 :: .int 0 :: .int 60 :: .int 0 :: .int 3 :: .int 1 :: .int (-1) :: .ref mrf :: .ref mki :: .ref mpa :: .ref mta :: .ref mla :: .ref msl :: .ref mco :: .ref mhe :: .ref mso :: .ref msi :: .ref msh :: .ref mce :: .ref mca :: .ref mwo :: .ref mnu :: .ref mte :: .int 0 :: .int 0 :: .int 0 :: .int 0 :: .int 0 :: .ref mwa :: .ref mke :: .ref mma :: .ref mth :: .ref mtr :: .int 0 :: .int 0 :: []))), (mco, .inl (cI, 3, .inl (zL3 5 10 50)))] s.heap.size) s.heap H locs := by rw [hH, hL]; exact hS
  clear hH hL
  refine lv_iload_n hx hb dX8_tells_0 rfl (lv_at hl 1 rfl) ?_
  have hsp : w = 0 ∨ w = 1 ∨ w = 2 ∨ w = 3 ∨ w = 4 ∨ w = 5 ∨ w = 6 ∨ w = 7 := by
    rcases (show w.toInt = 0 ∨ w.toInt = 1 ∨ w.toInt = 2 ∨ w.toInt = 3 ∨ w.toInt = 4 ∨ w.toInt = 5 ∨ w.toInt = 6 ∨ w.toInt = 7 by omega) with h9 | h9 | h9 | h9 | h9 | h9 | h9 | h9
    · refine Or.inl ?_; exact zf_val h9 (by decide)
    · refine Or.inr (Or.inl ?_); exact zf_val h9 (by decide)
    · refine Or.inr (Or.inr (Or.inl ?_)); exact zf_val h9 (by decide)
    · refine Or.inr (Or.inr (Or.inr (Or.inl ?_))); exact zf_val h9 (by decide)
    · refine Or.inr (Or.inr (Or.inr (Or.inr (Or.inl ?_)))); exact zf_val h9 (by decide)
    · refine Or.inr (Or.inr (Or.inr (Or.inr (Or.inr (Or.inl ?_))))); exact zf_val h9 (by decide)
    · refine Or.inr (Or.inr (Or.inr (Or.inr (Or.inr (Or.inr (Or.inl ?_)))))); exact zf_val h9 (by decide)
    · refine Or.inr (Or.inr (Or.inr (Or.inr (Or.inr (Or.inr (Or.inr (?_))))))); exact zf_val h9 (by decide)
  rcases hsp with rfl | rfl | rfl | rfl | rfl | rfl | rfl | rfl
  · refine lv_tableIn (tgt := 48) hx hb dX8_tells_1 (by decide) (by decide) rfl (by decide) ?_
    refine lv_aload_n hx hb dX8_tells_48 rfl (lv_at hl 0 rfl) ?_
    refine lv_iload_n hx hb dX8_tells_49 rfl (lv_at hl 2 rfl) ?_
    refine va_put (D := D) (ci := 8) (v := .int v) (ty := .int) (C := RX8) (T := TX8) (N := 38) hx hb hts hi_X8_tells_8 tyX8 tyX8_ok nmX8 hown hK hP hD hS 0 rfl rfl 3 (by decide) (hts (.fieldLink RX8 115 "TheLiningsInItModel" "depth" "I") (List.mem_of_getElem? (i := 1) rfl)) (fun _ h9 => h9) rfl (by decide +kernel) rfl rfl (Nat.le_of_ble_eq_true rfl) dX8_tells_50 (fun H locs hP hD hS => ?_)
    refine lv_goto (tgt := 97) hx hb dX8_tells_53 (by decide) ?_
    exact W.vret hx hb hr (fun t ht hW => ⟨⟨(), rfl, Or.inl ((by first | omega | decide)), zP_nil, zD_nil⟩, hS.F ht⟩) hS.2.2 dX8_tells_97
  · refine lv_tableIn (tgt := 56) hx hb dX8_tells_1 (by decide) (by decide) rfl (by decide) ?_
    refine lv_aload_n hx hb dX8_tells_56 rfl (lv_at hl 0 rfl) ?_
    refine lv_iload_n hx hb dX8_tells_57 rfl (lv_at hl 2 rfl) ?_
    refine va_put (D := D) (ci := 8) (v := .int v) (ty := .int) (C := RX8) (T := TX8) (N := 38) hx hb hts hi_X8_tells_8 tyX8 tyX8_ok nmX8 hown hK hP hD hS 0 rfl rfl 5 (by decide) (hts (.fieldLink RX8 13 "TheLiningsInItModel" "seconds" "I") (List.mem_of_getElem? (i := 2) rfl)) (fun _ h9 => h9) rfl (by decide +kernel) rfl rfl (Nat.le_of_ble_eq_true rfl) dX8_tells_58 (fun H locs hP hD hS => ?_)
    refine lv_goto (tgt := 97) hx hb dX8_tells_61 (by decide) ?_
    exact W.vret hx hb hr (fun t ht hW => ⟨⟨(), rfl, Or.inr (Or.inl ((by first | omega | decide))), zP_nil, zD_nil⟩, hS.F ht⟩) hS.2.2 dX8_tells_97
  · refine lv_tableIn (tgt := 64) hx hb dX8_tells_1 (by decide) (by decide) rfl (by decide) ?_
    refine lv_aload_n hx hb dX8_tells_64 rfl (lv_at hl 0 rfl) ?_
    refine lv_iload_n hx hb dX8_tells_65 rfl (lv_at hl 2 rfl) ?_
    refine va_put (D := D) (ci := 8) (v := .int v) (ty := .int) (C := RX8) (T := TX8) (N := 38) hx hb hts hi_X8_tells_8 tyX8 tyX8_ok nmX8 hown hK hP hD hS 0 rfl rfl 6 (by decide) (hts (.fieldLink RX8 135 "TheLiningsInItModel" "hurry" "I") (List.mem_of_getElem? (i := 3) rfl)) (fun _ h9 => h9) rfl (by decide +kernel) rfl rfl (Nat.le_of_ble_eq_true rfl) dX8_tells_66 (fun H locs hP hD hS => ?_)
    refine lv_goto (tgt := 97) hx hb dX8_tells_69 (by decide) ?_
    exact W.vret hx hb hr (fun t ht hW => ⟨⟨(), rfl, Or.inr (Or.inr (Or.inl ((by first | omega | decide)))), zP_nil, zD_nil⟩, hS.F ht⟩) hS.2.2 dX8_tells_97
  · refine lv_tableIn (tgt := 72) hx hb dX8_tells_1 (by decide) (by decide) rfl (by decide) ?_
    refine lv_aload_n hx hb dX8_tells_72 rfl (lv_at hl 0 rfl) ?_
    refine lv_iload_n hx hb dX8_tells_73 rfl (lv_at hl 2 rfl) ?_
    refine va_put (D := D) (ci := 8) (v := .int v) (ty := .int) (C := RX8) (T := TX8) (N := 38) hx hb hts hi_X8_tells_8 tyX8 tyX8_ok nmX8 hown hK hP hD hS 0 rfl rfl 7 (by decide) (hts (.fieldLink RX8 16 "TheLiningsInItModel" "gap" "I") (List.mem_of_getElem? (i := 4) rfl)) (fun _ h9 => h9) rfl (by decide +kernel) rfl rfl (Nat.le_of_ble_eq_true rfl) dX8_tells_74 (fun H locs hP hD hS => ?_)
    refine lv_goto (tgt := 97) hx hb dX8_tells_77 (by decide) ?_
    exact W.vret hx hb hr (fun t ht hW => ⟨⟨(), rfl, Or.inr (Or.inr (Or.inr (Or.inl ((by first | omega | decide))))), zP_nil, zD_nil⟩, hS.F ht⟩) hS.2.2 dX8_tells_97
  · refine lv_tableIn (tgt := 88) hx hb dX8_tells_1 (by decide) (by decide) rfl (by decide) ?_
    refine lv_aload_n hx hb dX8_tells_88 rfl (lv_at hl 0 rfl) ?_
    refine va_get (D := D) (ci := 8) (v := .ref mco) (C := RX8) (T := TX8) (N := 38) hx hb hts hi_X8_tells_8 hown hK hP 0 rfl rfl 16 (by decide) (hts (.fieldLink RX8 44 "TheLiningsInItModel" "cost" "[I") (List.mem_of_getElem? (i := 6) rfl)) (fun _ h9 => h9) rfl dX8_tells_89 ?_
    refine lv_iload_n hx hb dX8_tells_92 rfl (lv_at hl 1 rfl) ?_
    refine lv_iconst (v := 4) hx hb dX8_tells_93 (by decide) ?_
    refine lv_isub hx hb dX8_tells_94 ?_
    refine lv_topi (fun y_1 ey_1 => ?_)
    obtain rfl : y_1 = 0 := ey_1.trans (by decide)
    refine lv_iload_n hx hb dX8_tells_95 rfl (lv_at hl 2 rfl) ?_
    refine va_iast hx hb hK hP hD hS 1 0 rfl rfl (zf_in (by decide) (by decide)) dX8_tells_96 (fun H locs hP hD hS => ?_)
    exact W.vret hx hb hr (fun t ht hW => ⟨⟨(), rfl, Or.inr (Or.inr (Or.inr (Or.inr (Or.inl ((by first | omega | decide)))))), zP_nil, zD_nil⟩, hS.F ht⟩) hS.2.2 dX8_tells_97
  · refine lv_tableIn (tgt := 88) hx hb dX8_tells_1 (by decide) (by decide) rfl (by decide) ?_
    refine lv_aload_n hx hb dX8_tells_88 rfl (lv_at hl 0 rfl) ?_
    refine va_get (D := D) (ci := 8) (v := .ref mco) (C := RX8) (T := TX8) (N := 38) hx hb hts hi_X8_tells_8 hown hK hP 0 rfl rfl 16 (by decide) (hts (.fieldLink RX8 44 "TheLiningsInItModel" "cost" "[I") (List.mem_of_getElem? (i := 6) rfl)) (fun _ h9 => h9) rfl dX8_tells_89 ?_
    refine lv_iload_n hx hb dX8_tells_92 rfl (lv_at hl 1 rfl) ?_
    refine lv_iconst (v := 4) hx hb dX8_tells_93 (by decide) ?_
    refine lv_isub hx hb dX8_tells_94 ?_
    refine lv_topi (fun y_2 ey_2 => ?_)
    obtain rfl : y_2 = 1 := ey_2.trans (by decide)
    refine lv_iload_n hx hb dX8_tells_95 rfl (lv_at hl 2 rfl) ?_
    refine va_iast hx hb hK hP hD hS 1 0 rfl rfl (zf_in (by decide) (by decide)) dX8_tells_96 (fun H locs hP hD hS => ?_)
    exact W.vret hx hb hr (fun t ht hW => ⟨⟨(), rfl, Or.inr (Or.inr (Or.inr (Or.inr (Or.inr (Or.inl ((by first | omega | decide))))))), zP_nil, zD_nil⟩, hS.F ht⟩) hS.2.2 dX8_tells_97
  · refine lv_tableIn (tgt := 88) hx hb dX8_tells_1 (by decide) (by decide) rfl (by decide) ?_
    refine lv_aload_n hx hb dX8_tells_88 rfl (lv_at hl 0 rfl) ?_
    refine va_get (D := D) (ci := 8) (v := .ref mco) (C := RX8) (T := TX8) (N := 38) hx hb hts hi_X8_tells_8 hown hK hP 0 rfl rfl 16 (by decide) (hts (.fieldLink RX8 44 "TheLiningsInItModel" "cost" "[I") (List.mem_of_getElem? (i := 6) rfl)) (fun _ h9 => h9) rfl dX8_tells_89 ?_
    refine lv_iload_n hx hb dX8_tells_92 rfl (lv_at hl 1 rfl) ?_
    refine lv_iconst (v := 4) hx hb dX8_tells_93 (by decide) ?_
    refine lv_isub hx hb dX8_tells_94 ?_
    refine lv_topi (fun y_3 ey_3 => ?_)
    obtain rfl : y_3 = 2 := ey_3.trans (by decide)
    refine lv_iload_n hx hb dX8_tells_95 rfl (lv_at hl 2 rfl) ?_
    refine va_iast hx hb hK hP hD hS 1 0 rfl rfl (zf_in (by decide) (by decide)) dX8_tells_96 (fun H locs hP hD hS => ?_)
    exact W.vret hx hb hr (fun t ht hW => ⟨⟨(), rfl, Or.inr (Or.inr (Or.inr (Or.inr (Or.inr (Or.inr (Or.inl ((by first | omega | decide)))))))), zP_nil, zD_nil⟩, hS.F ht⟩) hS.2.2 dX8_tells_97
  · refine lv_tableIn (tgt := 80) hx hb dX8_tells_1 (by decide) (by decide) rfl (by decide) ?_
    refine lv_aload_n hx hb dX8_tells_80 rfl (lv_at hl 0 rfl) ?_
    refine lv_iload_n hx hb dX8_tells_81 rfl (lv_at hl 2 rfl) ?_
    refine va_put (D := D) (ci := 8) (v := .int v) (ty := .int) (C := RX8) (T := TX8) (N := 38) hx hb hts hi_X8_tells_8 tyX8 tyX8_ok nmX8 hown hK hP hD hS 0 rfl rfl 2 (by decide) (hts (.fieldLink RX8 122 "TheLiningsInItModel" "at" "I") (List.mem_of_getElem? (i := 5) rfl)) (fun _ h9 => h9) rfl (by decide +kernel) rfl rfl (Nat.le_of_ble_eq_true rfl) dX8_tells_82 (fun H locs hP hD hS => ?_)
    refine lv_goto (tgt := 97) hx hb dX8_tells_85 (by decide) ?_
    exact W.vret hx hb hr (fun t ht hW => ⟨⟨(), rfl, Or.inr (Or.inr (Or.inr (Or.inr (Or.inr (Or.inr (Or.inr ((by first | omega | decide)))))))), zP_nil, zD_nil⟩, hS.F ht⟩) hS.2.2 dX8_tells_97
set_option maxHeartbeats 4000000 in
set_option maxRecDepth 100000 in
theorem c_M_ask (l : Launch) (D : va_G) (cI cJ cZ cP cS : ClassId) (m0 mrf mki mpa mta mla msl mco mhe mso msi msh mce mca mwo mnu mte mwa mke mma mth mtr : Nat) (w v : Int32)  (sz : Nat) : Met l yX8_ask wsX8_ask ({ frames := 2, cells := 0, slots := 0, locals := 43 }) (va_Pc [.ref m0, .int w, .int v] (zW D (zKT cI cJ cZ cP cS) [(m0, .inr (8, (.int 0 :: .int 20 :: .int 0 :: .int 0 :: .int 0 :: .int 60 :: .int 0 :: .int 3 :: .int 1 :: .int (-1) :: .ref mrf :: .ref mki :: .ref mpa :: .ref mta :: .ref mla :: .ref msl :: .ref mco :: .ref mhe :: .ref mso :: .ref msi :: .ref msh :: .ref mce :: .ref mca :: .ref mwo :: .ref mnu :: .ref mte :: .int 0 :: .int 0 :: .int 0 :: .int 0 :: .int 0 :: .ref mwa :: .ref mke :: .ref mma :: .ref mth :: .ref mtr :: .int 0 :: .int 0 :: []))), (mrf, .inl (cI, 8, .inl (fun _ => 0))), (mco, .inl (cI, 3, .inl (zL3 5 10 50)))] sz)) (va_Qi (fun (r : Int32) (_ : Unit) => (r = (-6) ∧ w.toInt < 0) ∨ (r = (-6) ∧ 0 ≤ w.toInt ∧ 7 < w.toInt) ∨ (r = (-6) ∧ 0 ≤ w.toInt ∧ w.toInt ≤ 7 ∧ w.toInt ≠ 3 ∧ v.toInt < 0) ∨ (r = (-6) ∧ 0 ≤ w.toInt ∧ w.toInt ≤ 7 ∧ w.toInt ≠ 3 ∧ 0 ≤ v.toInt ∧ w.toInt ≠ 0 ∧ w.toInt ≠ 1 ∧ w.toInt = 2 ∧ 9 < v.toInt) ∨ (r = 0 ∧ 0 ≤ w.toInt ∧ w.toInt ≤ 7 ∧ w.toInt ≠ 3 ∧ 0 ≤ v.toInt ∧ w.toInt ≠ 0 ∧ w.toInt ≠ 1 ∧ w.toInt = 2 ∧ v.toInt ≤ 9) ∨ (r = (-6) ∧ 0 ≤ w.toInt ∧ w.toInt ≤ 7 ∧ w.toInt ≠ 3 ∧ 0 ≤ v.toInt ∧ w.toInt ≠ 0 ∧ w.toInt ≠ 1 ∧ w.toInt ≠ 2 ∧ w.toInt ≠ 7 ∧ 99 < v.toInt) ∨ (r = 3 ∧ 0 ≤ w.toInt ∧ w.toInt ≤ 7 ∧ w.toInt ≠ 3 ∧ 0 ≤ v.toInt ∧ w.toInt ≠ 0 ∧ w.toInt ≠ 1 ∧ w.toInt ≠ 2 ∧ w.toInt ≠ 7 ∧ v.toInt ≤ 99 ∧ w.toInt = 3) ∨ (r = 5 ∧ 0 ≤ w.toInt ∧ w.toInt ≤ 7 ∧ w.toInt ≠ 3 ∧ 0 ≤ v.toInt ∧ w.toInt ≠ 0 ∧ w.toInt ≠ 1 ∧ w.toInt ≠ 2 ∧ w.toInt ≠ 7 ∧ v.toInt ≤ 99 ∧ w.toInt = 4) ∨ (r = 10 ∧ 0 ≤ w.toInt ∧ w.toInt ≤ 7 ∧ w.toInt ≠ 3 ∧ 0 ≤ v.toInt ∧ w.toInt ≠ 0 ∧ w.toInt ≠ 1 ∧ w.toInt ≠ 2 ∧ w.toInt ≠ 7 ∧ v.toInt ≤ 99 ∧ w.toInt = 5) ∨ (r = 50 ∧ 0 ≤ w.toInt ∧ w.toInt ≤ 7 ∧ w.toInt ≠ 3 ∧ 0 ≤ v.toInt ∧ w.toInt ≠ 0 ∧ w.toInt ≠ 1 ∧ w.toInt ≠ 2 ∧ w.toInt ≠ 7 ∧ v.toInt ≤ 99 ∧ w.toInt = 6) ∨ (r = (-6) ∧ 0 ≤ w.toInt ∧ w.toInt ≤ 7 ∧ w.toInt ≠ 3 ∧ 0 ≤ v.toInt ∧ w.toInt ≠ 0 ∧ w.toInt ≠ 1 ∧ w.toInt ≠ 2 ∧ w.toInt = 7 ∧ 20 < v.toInt) ∨ (r = 0 ∧ 0 ≤ w.toInt ∧ w.toInt ≤ 7 ∧ w.toInt ≠ 3 ∧ 0 ≤ v.toInt ∧ w.toInt ≠ 0 ∧ w.toInt ≠ 1 ∧ w.toInt ≠ 2 ∧ w.toInt = 7 ∧ v.toInt ≤ 20) ∨ (r = (-6) ∧ 0 ≤ w.toInt ∧ w.toInt ≤ 7 ∧ w.toInt ≠ 3 ∧ 0 ≤ v.toInt ∧ w.toInt ≠ 0 ∧ w.toInt ≠ 1 ∧ w.toInt ≠ 2 ∧ w.toInt = 3 ∧ 9 < v.toInt) ∨ (r = 3 ∧ 0 ≤ w.toInt ∧ w.toInt ≤ 7 ∧ w.toInt ≠ 3 ∧ 0 ≤ v.toInt ∧ w.toInt ≠ 0 ∧ w.toInt ≠ 1 ∧ w.toInt ≠ 2 ∧ w.toInt = 3 ∧ v.toInt ≤ 9) ∨ (r = (-6) ∧ 0 ≤ w.toInt ∧ w.toInt ≤ 7 ∧ w.toInt ≠ 3 ∧ 0 ≤ v.toInt ∧ w.toInt ≠ 0 ∧ w.toInt = 1 ∧ 300 < v.toInt) ∨ (r = 60 ∧ 0 ≤ w.toInt ∧ w.toInt ≤ 7 ∧ w.toInt ≠ 3 ∧ 0 ≤ v.toInt ∧ w.toInt ≠ 0 ∧ w.toInt = 1 ∧ v.toInt ≤ 300) ∨ (r = (-6) ∧ 0 ≤ w.toInt ∧ w.toInt ≤ 7 ∧ w.toInt ≠ 3 ∧ 0 ≤ v.toInt ∧ w.toInt = 0 ∧ 24 < v.toInt) ∨ (r = 0 ∧ 0 ≤ w.toInt ∧ w.toInt ≤ 7 ∧ w.toInt ≠ 3 ∧ 0 ≤ v.toInt ∧ w.toInt = 0 ∧ v.toInt ≤ 24) ∨ (r = (-6) ∧ 0 ≤ w.toInt ∧ w.toInt ≤ 7 ∧ w.toInt = 3 ∧ v.toInt < 1) ∨ (r = (-6) ∧ 0 ≤ w.toInt ∧ w.toInt ≤ 7 ∧ w.toInt = 3 ∧ 1 ≤ v.toInt ∧ 9 < v.toInt) ∨ (r = 3 ∧ 0 ≤ w.toInt ∧ w.toInt ≤ 7 ∧ w.toInt = 3 ∧ 1 ≤ v.toInt ∧ v.toInt ≤ 9)) (zB D [(m0, .inr (8, (.int 0 :: .int 20 :: .int 0 :: .int 0 :: .int 0 :: .int 60 :: .int 0 :: .int 3 :: .int 1 :: .int (-1) :: .ref mrf :: .ref mki :: .ref mpa :: .ref mta :: .ref mla :: .ref msl :: .ref mco :: .ref mhe :: .ref mso :: .ref msi :: .ref msh :: .ref mce :: .ref mca :: .ref mwo :: .ref mnu :: .ref mte :: .int 0 :: .int 0 :: .int 0 :: .int 0 :: .int 0 :: .ref mwa :: .ref mke :: .ref mma :: .ref mth :: .ref mtr :: .int 0 :: .int 0 :: []))), (mrf, .inl (cI, 8, .inl (fun _ => 0))), (mco, .inl (cI, 3, .inl (zL3 5 10 50)))] sz (fun (_ : Unit) => ([] : va_W))) (va_A [(m0, .inr (8, (.int 0 :: .int 20 :: .int 0 :: .int 0 :: .int 0 :: .int 60 :: .int 0 :: .int 3 :: .int 1 :: .int (-1) :: .ref mrf :: .ref mki :: .ref mpa :: .ref mta :: .ref mla :: .ref msl :: .ref mco :: .ref mhe :: .ref mso :: .ref msi :: .ref msh :: .ref mce :: .ref mca :: .ref mwo :: .ref mnu :: .ref mte :: .int 0 :: .int 0 :: .int 0 :: .int 0 :: .int 0 :: .ref mwa :: .ref mke :: .ref mma :: .ref mth :: .ref mtr :: .int 0 :: .int 0 :: []))), (mrf, .inl (cI, 8, .inl (fun _ => 0))), (mco, .inl (cI, 3, .inl (zL3 5 10 50)))] sz)) 0 0 (va_A [(m0, .inr (8, (.int 0 :: .int 20 :: .int 0 :: .int 0 :: .int 0 :: .int 60 :: .int 0 :: .int 3 :: .int 1 :: .int (-1) :: .ref mrf :: .ref mki :: .ref mpa :: .ref mta :: .ref mla :: .ref msl :: .ref mco :: .ref mhe :: .ref mso :: .ref msi :: .ref msh :: .ref mce :: .ref mca :: .ref mwo :: .ref mnu :: .ref mte :: .int 0 :: .int 0 :: .int 0 :: .int 0 :: .int 0 :: .ref mwa :: .ref mke :: .ref mma :: .ref mth :: .ref mtr :: .int 0 :: .int 0 :: []))), (mrf, .inl (cI, 8, .inl (fun _ => 0))), (mco, .inl (cI, 3, .inl (zL3 5 10 50)))] sz) := by
  refine Met.ofW (cc := cX8_ask) (maxL := 4) (ret := (some .int)) (by decide) rfl ?_
  intro p e s m args below meth c s₁ B hml hv
  obtain ⟨rfl, hsz, hP, hK, hD0, hN, hZ⟩ := hv
  have hx := B.exec
  have hb := B.bytes
  have hr := B.returns
  have hts := atoms_spec (ws := wsX8_ask) B.pre
  have hown : s.vm.findClass RX8 = some m.cls := findClass_of_methodNamed B.named
  have hlocks := B.notSynchronized
  subst hsz
  have hD := hD0.self (sz := s.heap.size)
  have hA : ∀ q : Nat, s.heap.size ≤ q → va_A [(m0, .inr (8, (.int 0 :: .int 20 :: .int 0 :: .int 0 :: .int 0 :: .int 60 :: .int 0 :: .int 3 :: .int 1 :: .int (-1) :: .ref mrf :: .ref mki :: .ref mpa :: .ref mta :: .ref mla :: .ref msl :: .ref mco :: .ref mhe :: .ref mso :: .ref msi :: .ref msh :: .ref mce :: .ref mca :: .ref mwo :: .ref mnu :: .ref mte :: .int 0 :: .int 0 :: .int 0 :: .int 0 :: .int 0 :: .ref mwa :: .ref mke :: .ref mma :: .ref mth :: .ref mtr :: .int 0 :: .int 0 :: []))), (mrf, .inl (cI, 8, .inl (fun _ => 0))), (mco, .inl (cI, 3, .inl (zL3 5 10 50)))] s.heap.size q := fun q h => Or.inr h
  have hS : va_S (va_A [(m0, .inr (8, (.int 0 :: .int 20 :: .int 0 :: .int 0 :: .int 0 :: .int 60 :: .int 0 :: .int 3 :: .int 1 :: .int (-1) :: .ref mrf :: .ref mki :: .ref mpa :: .ref mta :: .ref mla :: .ref msl :: .ref mco :: .ref mhe :: .ref mso :: .ref msi :: .ref msh :: .ref mce :: .ref mca :: .ref mwo :: .ref mnu :: .ref mte :: .int 0 :: .int 0 :: .int 0 :: .int 0 :: .int 0 :: .ref mwa :: .ref mke :: .ref mma :: .ref mth :: .ref mtr :: .int 0 :: .int 0 :: []))), (mrf, .inl (cI, 8, .inl (fun _ => 0))), (mco, .inl (cI, 3, .inl (zL3 5 10 50)))] s.heap.size) s.heap s.heap [] := va_S.rf
  replace hP : va_P D vwCl _ s.heap := hP
  have hl := lv_entry ([.ref m0, .int w, .int v]) (n := 4) (Nat.le_of_ble_eq_true rfl)
  rw [lg_entry_eq]
  generalize (lg_sl ([.ref m0, .int w, .int v]) ++ List.replicate (4 - (lg_sl ([.ref m0, .int w, .int v])).length) Slot.unset).toArray = ls at hl ⊢
  replace hl : lv_has ls 4 [(0, .ref m0), (1, .int w), (2, .int v)] := hl
  refine zw_start (fun H locs hH hL => ?_)
  replace hP : va_P D vwCl [(m0, .inr (8, (.int 0 :: .int 20 :: .int 0 :: .int 0 :: .int 0 :: .int 60 :: .int 0 :: .int 3 :: .int 1 :: .int (-1) :: .ref mrf :: .ref mki :: .ref mpa :: .ref mta :: .ref mla :: .ref msl :: .ref mco :: .ref mhe :: .ref mso :: .ref msi :: .ref msh :: .ref mce :: .ref mca :: .ref mwo :: .ref mnu :: .ref mte :: .int 0 :: .int 0 :: .int 0 :: .int 0 :: .int 0 :: .ref mwa :: .ref mke :: .ref mma :: .ref mth :: .ref mtr :: .int 0 :: .int 0 :: []))), (mrf, .inl (cI, 8, .inl (fun _ => 0))), (mco, .inl (cI, 3, .inl (zL3 5 10 50)))] H := by rw [hH]; exact hP
  replace hS : va_S (va_A [(m0, .inr (8, (.int 0 :: .int 20 :: .int 0 :: .int 0 :: .int 0 :: .int 60 :: .int 0 :: .int 3 :: .int 1 :: .int (-1) :: .ref mrf :: .ref mki :: .ref mpa :: .ref mta :: .ref mla :: .ref msl :: .ref mco :: .ref mhe :: .ref mso :: .ref msi :: .ref msh :: .ref mce :: .ref mca :: .ref mwo :: .ref mnu :: .ref mte :: .int 0 :: .int 0 :: .int 0 :: .int 0 :: .int 0 :: .ref mwa :: .ref mke :: .ref mma :: .ref mth :: .ref mtr :: .int 0 :: .int 0 :: []))), (mrf, .inl (cI, 8, .inl (fun _ => 0))), (mco, .inl (cI, 3, .inl (zL3 5 10 50)))] s.heap.size) s.heap H locs := by rw [hH, hL]; exact hS
  clear hH hL
  refine lv_iload_n hx hb dX8_ask_0 rfl (lv_at hl 1 rfl) ?_
  refine lv_if_lt (tgt := 19) hx hb dX8_ask_1 (by decide) (fun c_1 => ?_) (fun c_1 => ?_)
  · have fc_1 : w.toInt < 0 := zf_lt c_1 rfl (by decide)
    refine lv_aload_n hx hb dX8_ask_19 rfl (lv_at hl 0 rfl) ?_
    refine lv_bipush (v := (-6)) hx hb dX8_ask_20 (by decide) ?_
    skip
    refine zw_V (As := [.int (-6)]) (rest := []) (wr := []) ⟨hx, hb, hml, hown, hts⟩ (c_M_no_6 l D cI cJ cZ cP cS m0 mrf mki mpa mta mla msl mco mhe mso msi msh mce mca mwo mnu mte mwa mke mma mth mtr  H.size) (cwV 1 hts gX8_ask_X8_no rfl rfl rfl (by decide +kernel) ⟨Nat.le_of_ble_eq_true rfl, Nat.le_of_ble_eq_true rfl⟩) hK hN (hZ.kept hS) hP hD hS hA [0, 1] [] rfl rfl (by decide) (by decide) (by decide) (va_recv hK hP (ci := 8) (q0 := 0) rfl rfl) rfl hl.1 rfl (Nat.le_of_ble_eq_true rfl) dX8_ask_22 ⟨Nat.le_of_ble_eq_true rfl, Nat.le_of_ble_eq_true rfl⟩ (fun r_2 u_3 H locs hr_2 hP hD hS => ?_)
    obtain rfl := hr_2
    exact W.iret (v := (-6)) hx hb hr (fun t ht hW => ⟨⟨(-6), (), rfl, Or.inl (⟨rfl, (by first | omega | decide)⟩), zP_nil, zD_nil⟩, hS.F ht⟩) hS.2.2 dX8_ask_25
  · have fc_1 : 0 ≤ w.toInt := zf_nlt c_1 rfl (by decide)
    refine lv_iload_n hx hb dX8_ask_4 rfl (lv_at hl 1 rfl) ?_
    refine lv_bipush (v := 7) hx hb dX8_ask_5 (by decide) ?_
    refine lv_icmp_gt (tgt := 19) hx hb dX8_ask_7 (by decide) (fun c_4 => ?_) (fun c_4 => ?_)
    · have fc_4 : 7 < w.toInt := zf_lt c_4 (by decide) rfl
      refine lv_aload_n hx hb dX8_ask_19 rfl (lv_at hl 0 rfl) ?_
      refine lv_bipush (v := (-6)) hx hb dX8_ask_20 (by decide) ?_
      skip
      refine zw_V (As := [.int (-6)]) (rest := []) (wr := []) ⟨hx, hb, hml, hown, hts⟩ (c_M_no_6 l D cI cJ cZ cP cS m0 mrf mki mpa mta mla msl mco mhe mso msi msh mce mca mwo mnu mte mwa mke mma mth mtr  H.size) (cwV 1 hts gX8_ask_X8_no rfl rfl rfl (by decide +kernel) ⟨Nat.le_of_ble_eq_true rfl, Nat.le_of_ble_eq_true rfl⟩) hK hN (hZ.kept hS) hP hD hS hA [0, 1] [] rfl rfl (by decide) (by decide) (by decide) (va_recv hK hP (ci := 8) (q0 := 0) rfl rfl) rfl hl.1 rfl (Nat.le_of_ble_eq_true rfl) dX8_ask_22 ⟨Nat.le_of_ble_eq_true rfl, Nat.le_of_ble_eq_true rfl⟩ (fun r_5 u_6 H locs hr_5 hP hD hS => ?_)
      obtain rfl := hr_5
      exact W.iret (v := (-6)) hx hb hr (fun t ht hW => ⟨⟨(-6), (), rfl, Or.inr (Or.inl (⟨rfl, (by first | omega | decide), (by first | omega | decide)⟩)), zP_nil, zD_nil⟩, hS.F ht⟩) hS.2.2 dX8_ask_25
    · have fc_4 : w.toInt ≤ 7 := zf_nlt c_4 (by decide) rfl
      refine lv_aload_n hx hb dX8_ask_10 rfl (lv_at hl 0 rfl) ?_
      refine lv_iload_n hx hb dX8_ask_11 rfl (lv_at hl 1 rfl) ?_
      refine lv_iload_n hx hb dX8_ask_12 rfl (lv_at hl 2 rfl) ?_
      refine zc_V (As := [.int w, .int v]) (rest := []) ⟨hx, hb, hml, hown, hts⟩ (c_M_isAsked l D cI cJ cZ cP cS m0 mrf mki mpa mta mla msl mco mhe mso msi msh mce mca mwo mnu mte mwa mke mma mth mtr (w) (v) (by omega) (by omega)) (cwV 2 hts gX8_ask_X8_isAsked rfl rfl rfl (by decide +kernel) ⟨Nat.le_of_ble_eq_true rfl, Nat.le_of_ble_eq_true rfl⟩) hK hN (hZ.kept hS) hP [0] rfl (va_recv hK hP (ci := 8) (q0 := 0) rfl rfl) rfl hl.1 rfl (Nat.le_of_ble_eq_true rfl) dX8_ask_13 ⟨Nat.le_of_ble_eq_true rfl, Nat.le_of_ble_eq_true rfl⟩ (fun r_7 hr_7 => ?_)
      rcases hr_7 with ⟨rfl, g_8, g_9⟩ | ⟨rfl, g_10, g_11, g_12, g_13, g_14, g_15⟩ | ⟨rfl, g_16, g_17, g_18, g_19, g_20, g_21⟩ | ⟨rfl, g_22, g_23, g_24, g_25, g_26, g_27, g_28⟩ | ⟨rfl, g_29, g_30, g_31, g_32, g_33, g_34, g_35⟩ | ⟨rfl, g_36, g_37, g_38, g_39, g_40, g_41, g_42⟩ | ⟨rfl, g_43, g_44, g_45, g_46, g_47, g_48, g_49⟩ | ⟨rfl, g_50, g_51, g_52, g_53, g_54, g_55, g_56⟩ | ⟨rfl, g_57, g_58, g_59, g_60, g_61, g_62, g_63⟩ | ⟨rfl, g_64, g_65, g_66, g_67, g_68⟩ | ⟨rfl, g_69, g_70, g_71, g_72, g_73⟩ | ⟨rfl, g_74, g_75, g_76, g_77⟩ | ⟨rfl, g_78, g_79, g_80, g_81⟩ | ⟨rfl, g_82, g_83⟩ | ⟨rfl, g_84, g_85, g_86⟩ | ⟨rfl, g_87, g_88, g_89⟩
      · refine lv_if_ne (tgt := 26) hx hb dX8_ask_16 (by decide) (fun c_90 => ?_) (fun c_90 => ?_)
        · exact absurd c_90 (by decide)
        · refine lv_aload_n hx hb dX8_ask_19 rfl (lv_at hl 0 rfl) ?_
          refine lv_bipush (v := (-6)) hx hb dX8_ask_20 (by decide) ?_
          skip
          refine zw_V (As := [.int (-6)]) (rest := []) (wr := []) ⟨hx, hb, hml, hown, hts⟩ (c_M_no_6 l D cI cJ cZ cP cS m0 mrf mki mpa mta mla msl mco mhe mso msi msh mce mca mwo mnu mte mwa mke mma mth mtr  H.size) (cwV 1 hts gX8_ask_X8_no rfl rfl rfl (by decide +kernel) ⟨Nat.le_of_ble_eq_true rfl, Nat.le_of_ble_eq_true rfl⟩) hK hN (hZ.kept hS) hP hD hS hA [0, 1] [] rfl rfl (by decide) (by decide) (by decide) (va_recv hK hP (ci := 8) (q0 := 0) rfl rfl) rfl hl.1 rfl (Nat.le_of_ble_eq_true rfl) dX8_ask_22 ⟨Nat.le_of_ble_eq_true rfl, Nat.le_of_ble_eq_true rfl⟩ (fun r_91 u_92 H locs hr_91 hP hD hS => ?_)
          obtain rfl := hr_91
          exact W.iret (v := (-6)) hx hb hr (fun t ht hW => ⟨⟨(-6), (), rfl, Or.inr (Or.inr (Or.inl (⟨rfl, (by first | omega | decide), (by first | omega | decide), (by first | omega | decide), (by first | omega | decide)⟩))), zP_nil, zD_nil⟩, hS.F ht⟩) hS.2.2 dX8_ask_25
      · refine lv_if_ne (tgt := 26) hx hb dX8_ask_16 (by decide) (fun c_93 => ?_) (fun c_93 => ?_)
        · exact absurd c_93 (by decide)
        · refine lv_aload_n hx hb dX8_ask_19 rfl (lv_at hl 0 rfl) ?_
          refine lv_bipush (v := (-6)) hx hb dX8_ask_20 (by decide) ?_
          skip
          refine zw_V (As := [.int (-6)]) (rest := []) (wr := []) ⟨hx, hb, hml, hown, hts⟩ (c_M_no_6 l D cI cJ cZ cP cS m0 mrf mki mpa mta mla msl mco mhe mso msi msh mce mca mwo mnu mte mwa mke mma mth mtr  H.size) (cwV 1 hts gX8_ask_X8_no rfl rfl rfl (by decide +kernel) ⟨Nat.le_of_ble_eq_true rfl, Nat.le_of_ble_eq_true rfl⟩) hK hN (hZ.kept hS) hP hD hS hA [0, 1] [] rfl rfl (by decide) (by decide) (by decide) (va_recv hK hP (ci := 8) (q0 := 0) rfl rfl) rfl hl.1 rfl (Nat.le_of_ble_eq_true rfl) dX8_ask_22 ⟨Nat.le_of_ble_eq_true rfl, Nat.le_of_ble_eq_true rfl⟩ (fun r_94 u_95 H locs hr_94 hP hD hS => ?_)
          obtain rfl := hr_94
          exact W.iret (v := (-6)) hx hb hr (fun t ht hW => ⟨⟨(-6), (), rfl, Or.inr (Or.inr (Or.inr (Or.inl (⟨rfl, (by first | omega | decide), (by first | omega | decide), (by first | omega | decide), (by first | omega | decide), (by first | omega | decide), (by first | omega | decide), (by first | omega | decide), (by first | omega | decide)⟩)))), zP_nil, zD_nil⟩, hS.F ht⟩) hS.2.2 dX8_ask_25
      · refine lv_if_ne (tgt := 26) hx hb dX8_ask_16 (by decide) (fun c_96 => ?_) (fun c_96 => ?_)
        · refine lv_aload_n hx hb dX8_ask_26 rfl (lv_at hl 0 rfl) ?_
          refine lv_iload_n hx hb dX8_ask_27 rfl (lv_at hl 1 rfl) ?_
          refine zc_V (As := [.int w]) (rest := []) ⟨hx, hb, hml, hown, hts⟩ (c_M_told l D cI cJ cZ cP cS m0 mrf mki mpa mta mla msl mco mhe mso msi msh mce mca mwo mnu mte mwa mke mma mth mtr (w) (by omega) (by omega)) (cwV 1 hts gX8_ask_X8_told rfl rfl rfl (by decide +kernel) ⟨Nat.le_of_ble_eq_true rfl, Nat.le_of_ble_eq_true rfl⟩) hK hN (hZ.kept hS) hP [0, 2] rfl (va_recv hK hP (ci := 8) (q0 := 0) rfl rfl) rfl hl.1 rfl (Nat.le_of_ble_eq_true rfl) dX8_ask_28 ⟨Nat.le_of_ble_eq_true rfl, Nat.le_of_ble_eq_true rfl⟩ (fun r_97 hr_97 => ?_)
          rcases hr_97 with ⟨rfl, g_98⟩ | ⟨rfl, g_99⟩ | ⟨rfl, g_100⟩ | ⟨rfl, g_101⟩ | ⟨rfl, g_102⟩ | ⟨rfl, g_103⟩ | ⟨rfl, g_104⟩ | ⟨rfl, g_105⟩
          · exfalso; omega
          · exfalso; omega
          · refine lv_istore_n (lv' := [(3, .int 0), (0, .ref m0), (1, .int w), (2, .int v)]) hx hb dX8_ask_31 rfl hl (by decide) rfl (fun ls hl => ?_)
            refine lv_aload_n hx hb dX8_ask_32 rfl (lv_at hl 1 rfl) ?_
            refine lv_iload_n hx hb dX8_ask_33 rfl (lv_at hl 2 rfl) ?_
            refine lv_iload_n hx hb dX8_ask_34 rfl (lv_at hl 3 rfl) ?_
            skip
            refine zw_Vv (As := [.int w, .int v]) (rest := []) (wr := []) ⟨hx, hb, hml, hown, hts⟩ (c_M_tells l D cI cJ cZ cP cS m0 mrf mki mpa mta mla msl mco mhe mso msi msh mce mca mwo mnu mte mwa mke mma mth mtr (w) (v) (by omega) (by omega) H.size) (cwV 2 hts gX8_ask_X8_tells rfl rfl rfl (by decide +kernel) ⟨Nat.le_of_ble_eq_true rfl, Nat.le_of_ble_eq_true rfl⟩) hK hN (hZ.kept hS) hP hD hS hA [0, 2] [] rfl rfl (by decide) (by decide) (by decide) (va_recv hK hP (ci := 8) (q0 := 0) rfl rfl) rfl hl.1 rfl (Nat.le_of_ble_eq_true rfl) dX8_ask_35 ⟨Nat.le_of_ble_eq_true rfl, Nat.le_of_ble_eq_true rfl⟩ (fun u_107 H locs hr_106 hP hD hS => ?_)
            rcases hr_106 with g_108 | g_109 | g_110 | g_111 | g_112 | g_113 | g_114 | g_115
            · exfalso; omega
            · exfalso; omega
            · refine lv_iload_n hx hb dX8_ask_38 rfl (lv_at hl 0 rfl) ?_
              exact W.iret (v := 0) hx hb hr (fun t ht hW => ⟨⟨0, (), rfl, Or.inr (Or.inr (Or.inr (Or.inr (Or.inl (⟨rfl, (by first | omega | decide), (by first | omega | decide), (by first | omega | decide), (by first | omega | decide), (by first | omega | decide), (by first | omega | decide), (by first | omega | decide), (by first | omega | decide)⟩))))), zP_nil, zD_nil⟩, hS.F ht⟩) hS.2.2 dX8_ask_39
            · exfalso; omega
            · exfalso; omega
            · exfalso; omega
            · exfalso; omega
            · exfalso; omega
          · exfalso; omega
          · exfalso; omega
          · exfalso; omega
          · exfalso; omega
          · exfalso; omega
        · exact absurd c_96 (by decide)
      · refine lv_if_ne (tgt := 26) hx hb dX8_ask_16 (by decide) (fun c_116 => ?_) (fun c_116 => ?_)
        · exact absurd c_116 (by decide)
        · refine lv_aload_n hx hb dX8_ask_19 rfl (lv_at hl 0 rfl) ?_
          refine lv_bipush (v := (-6)) hx hb dX8_ask_20 (by decide) ?_
          skip
          refine zw_V (As := [.int (-6)]) (rest := []) (wr := []) ⟨hx, hb, hml, hown, hts⟩ (c_M_no_6 l D cI cJ cZ cP cS m0 mrf mki mpa mta mla msl mco mhe mso msi msh mce mca mwo mnu mte mwa mke mma mth mtr  H.size) (cwV 1 hts gX8_ask_X8_no rfl rfl rfl (by decide +kernel) ⟨Nat.le_of_ble_eq_true rfl, Nat.le_of_ble_eq_true rfl⟩) hK hN (hZ.kept hS) hP hD hS hA [0, 1] [] rfl rfl (by decide) (by decide) (by decide) (va_recv hK hP (ci := 8) (q0 := 0) rfl rfl) rfl hl.1 rfl (Nat.le_of_ble_eq_true rfl) dX8_ask_22 ⟨Nat.le_of_ble_eq_true rfl, Nat.le_of_ble_eq_true rfl⟩ (fun r_117 u_118 H locs hr_117 hP hD hS => ?_)
          obtain rfl := hr_117
          exact W.iret (v := (-6)) hx hb hr (fun t ht hW => ⟨⟨(-6), (), rfl, Or.inr (Or.inr (Or.inr (Or.inr (Or.inr (Or.inl (⟨rfl, (by first | omega | decide), (by first | omega | decide), (by first | omega | decide), (by first | omega | decide), (by first | omega | decide), (by first | omega | decide), (by first | omega | decide), (by first | omega | decide), (by first | omega | decide)⟩)))))), zP_nil, zD_nil⟩, hS.F ht⟩) hS.2.2 dX8_ask_25
      · refine lv_if_ne (tgt := 26) hx hb dX8_ask_16 (by decide) (fun c_119 => ?_) (fun c_119 => ?_)
        · refine lv_aload_n hx hb dX8_ask_26 rfl (lv_at hl 0 rfl) ?_
          refine lv_iload_n hx hb dX8_ask_27 rfl (lv_at hl 1 rfl) ?_
          refine zc_V (As := [.int w]) (rest := []) ⟨hx, hb, hml, hown, hts⟩ (c_M_told l D cI cJ cZ cP cS m0 mrf mki mpa mta mla msl mco mhe mso msi msh mce mca mwo mnu mte mwa mke mma mth mtr (w) (by omega) (by omega)) (cwV 1 hts gX8_ask_X8_told rfl rfl rfl (by decide +kernel) ⟨Nat.le_of_ble_eq_true rfl, Nat.le_of_ble_eq_true rfl⟩) hK hN (hZ.kept hS) hP [0, 2] rfl (va_recv hK hP (ci := 8) (q0 := 0) rfl rfl) rfl hl.1 rfl (Nat.le_of_ble_eq_true rfl) dX8_ask_28 ⟨Nat.le_of_ble_eq_true rfl, Nat.le_of_ble_eq_true rfl⟩ (fun r_120 hr_120 => ?_)
          rcases hr_120 with ⟨rfl, g_121⟩ | ⟨rfl, g_122⟩ | ⟨rfl, g_123⟩ | ⟨rfl, g_124⟩ | ⟨rfl, g_125⟩ | ⟨rfl, g_126⟩ | ⟨rfl, g_127⟩ | ⟨rfl, g_128⟩
          · exfalso; omega
          · exfalso; omega
          · exfalso; omega
          · refine lv_istore_n (lv' := [(3, .int 3), (0, .ref m0), (1, .int w), (2, .int v)]) hx hb dX8_ask_31 rfl hl (by decide) rfl (fun ls hl => ?_)
            refine lv_aload_n hx hb dX8_ask_32 rfl (lv_at hl 1 rfl) ?_
            refine lv_iload_n hx hb dX8_ask_33 rfl (lv_at hl 2 rfl) ?_
            refine lv_iload_n hx hb dX8_ask_34 rfl (lv_at hl 3 rfl) ?_
            skip
            refine zw_Vv (As := [.int w, .int v]) (rest := []) (wr := []) ⟨hx, hb, hml, hown, hts⟩ (c_M_tells l D cI cJ cZ cP cS m0 mrf mki mpa mta mla msl mco mhe mso msi msh mce mca mwo mnu mte mwa mke mma mth mtr (w) (v) (by omega) (by omega) H.size) (cwV 2 hts gX8_ask_X8_tells rfl rfl rfl (by decide +kernel) ⟨Nat.le_of_ble_eq_true rfl, Nat.le_of_ble_eq_true rfl⟩) hK hN (hZ.kept hS) hP hD hS hA [0, 2] [] rfl rfl (by decide) (by decide) (by decide) (va_recv hK hP (ci := 8) (q0 := 0) rfl rfl) rfl hl.1 rfl (Nat.le_of_ble_eq_true rfl) dX8_ask_35 ⟨Nat.le_of_ble_eq_true rfl, Nat.le_of_ble_eq_true rfl⟩ (fun u_130 H locs hr_129 hP hD hS => ?_)
            rcases hr_129 with g_131 | g_132 | g_133 | g_134 | g_135 | g_136 | g_137 | g_138
            · exfalso; omega
            · exfalso; omega
            · exfalso; omega
            · refine lv_iload_n hx hb dX8_ask_38 rfl (lv_at hl 0 rfl) ?_
              exact W.iret (v := 3) hx hb hr (fun t ht hW => ⟨⟨3, (), rfl, Or.inr (Or.inr (Or.inr (Or.inr (Or.inr (Or.inr (Or.inl (⟨rfl, (by first | omega | decide), (by first | omega | decide), (by first | omega | decide), (by first | omega | decide), (by first | omega | decide), (by first | omega | decide), (by first | omega | decide), (by first | omega | decide), (by first | omega | decide), (by first | omega | decide)⟩))))))), zP_nil, zD_nil⟩, hS.F ht⟩) hS.2.2 dX8_ask_39
            · exfalso; omega
            · exfalso; omega
            · exfalso; omega
            · exfalso; omega
          · refine lv_istore_n (lv' := [(3, .int 5), (0, .ref m0), (1, .int w), (2, .int v)]) hx hb dX8_ask_31 rfl hl (by decide) rfl (fun ls hl => ?_)
            refine lv_aload_n hx hb dX8_ask_32 rfl (lv_at hl 1 rfl) ?_
            refine lv_iload_n hx hb dX8_ask_33 rfl (lv_at hl 2 rfl) ?_
            refine lv_iload_n hx hb dX8_ask_34 rfl (lv_at hl 3 rfl) ?_
            skip
            refine zw_Vv (As := [.int w, .int v]) (rest := []) (wr := []) ⟨hx, hb, hml, hown, hts⟩ (c_M_tells l D cI cJ cZ cP cS m0 mrf mki mpa mta mla msl mco mhe mso msi msh mce mca mwo mnu mte mwa mke mma mth mtr (w) (v) (by omega) (by omega) H.size) (cwV 2 hts gX8_ask_X8_tells rfl rfl rfl (by decide +kernel) ⟨Nat.le_of_ble_eq_true rfl, Nat.le_of_ble_eq_true rfl⟩) hK hN (hZ.kept hS) hP hD hS hA [0, 2] [] rfl rfl (by decide) (by decide) (by decide) (va_recv hK hP (ci := 8) (q0 := 0) rfl rfl) rfl hl.1 rfl (Nat.le_of_ble_eq_true rfl) dX8_ask_35 ⟨Nat.le_of_ble_eq_true rfl, Nat.le_of_ble_eq_true rfl⟩ (fun u_140 H locs hr_139 hP hD hS => ?_)
            rcases hr_139 with g_141 | g_142 | g_143 | g_144 | g_145 | g_146 | g_147 | g_148
            · exfalso; omega
            · exfalso; omega
            · exfalso; omega
            · exfalso; omega
            · refine lv_iload_n hx hb dX8_ask_38 rfl (lv_at hl 0 rfl) ?_
              exact W.iret (v := 5) hx hb hr (fun t ht hW => ⟨⟨5, (), rfl, Or.inr (Or.inr (Or.inr (Or.inr (Or.inr (Or.inr (Or.inr (Or.inl (⟨rfl, (by first | omega | decide), (by first | omega | decide), (by first | omega | decide), (by first | omega | decide), (by first | omega | decide), (by first | omega | decide), (by first | omega | decide), (by first | omega | decide), (by first | omega | decide), (by first | omega | decide)⟩)))))))), zP_nil, zD_nil⟩, hS.F ht⟩) hS.2.2 dX8_ask_39
            · exfalso; omega
            · exfalso; omega
            · exfalso; omega
          · refine lv_istore_n (lv' := [(3, .int 10), (0, .ref m0), (1, .int w), (2, .int v)]) hx hb dX8_ask_31 rfl hl (by decide) rfl (fun ls hl => ?_)
            refine lv_aload_n hx hb dX8_ask_32 rfl (lv_at hl 1 rfl) ?_
            refine lv_iload_n hx hb dX8_ask_33 rfl (lv_at hl 2 rfl) ?_
            refine lv_iload_n hx hb dX8_ask_34 rfl (lv_at hl 3 rfl) ?_
            skip
            refine zw_Vv (As := [.int w, .int v]) (rest := []) (wr := []) ⟨hx, hb, hml, hown, hts⟩ (c_M_tells l D cI cJ cZ cP cS m0 mrf mki mpa mta mla msl mco mhe mso msi msh mce mca mwo mnu mte mwa mke mma mth mtr (w) (v) (by omega) (by omega) H.size) (cwV 2 hts gX8_ask_X8_tells rfl rfl rfl (by decide +kernel) ⟨Nat.le_of_ble_eq_true rfl, Nat.le_of_ble_eq_true rfl⟩) hK hN (hZ.kept hS) hP hD hS hA [0, 2] [] rfl rfl (by decide) (by decide) (by decide) (va_recv hK hP (ci := 8) (q0 := 0) rfl rfl) rfl hl.1 rfl (Nat.le_of_ble_eq_true rfl) dX8_ask_35 ⟨Nat.le_of_ble_eq_true rfl, Nat.le_of_ble_eq_true rfl⟩ (fun u_150 H locs hr_149 hP hD hS => ?_)
            rcases hr_149 with g_151 | g_152 | g_153 | g_154 | g_155 | g_156 | g_157 | g_158
            · exfalso; omega
            · exfalso; omega
            · exfalso; omega
            · exfalso; omega
            · exfalso; omega
            · refine lv_iload_n hx hb dX8_ask_38 rfl (lv_at hl 0 rfl) ?_
              exact W.iret (v := 10) hx hb hr (fun t ht hW => ⟨⟨10, (), rfl, Or.inr (Or.inr (Or.inr (Or.inr (Or.inr (Or.inr (Or.inr (Or.inr (Or.inl (⟨rfl, (by first | omega | decide), (by first | omega | decide), (by first | omega | decide), (by first | omega | decide), (by first | omega | decide), (by first | omega | decide), (by first | omega | decide), (by first | omega | decide), (by first | omega | decide), (by first | omega | decide)⟩))))))))), zP_nil, zD_nil⟩, hS.F ht⟩) hS.2.2 dX8_ask_39
            · exfalso; omega
            · exfalso; omega
          · refine lv_istore_n (lv' := [(3, .int 50), (0, .ref m0), (1, .int w), (2, .int v)]) hx hb dX8_ask_31 rfl hl (by decide) rfl (fun ls hl => ?_)
            refine lv_aload_n hx hb dX8_ask_32 rfl (lv_at hl 1 rfl) ?_
            refine lv_iload_n hx hb dX8_ask_33 rfl (lv_at hl 2 rfl) ?_
            refine lv_iload_n hx hb dX8_ask_34 rfl (lv_at hl 3 rfl) ?_
            skip
            refine zw_Vv (As := [.int w, .int v]) (rest := []) (wr := []) ⟨hx, hb, hml, hown, hts⟩ (c_M_tells l D cI cJ cZ cP cS m0 mrf mki mpa mta mla msl mco mhe mso msi msh mce mca mwo mnu mte mwa mke mma mth mtr (w) (v) (by omega) (by omega) H.size) (cwV 2 hts gX8_ask_X8_tells rfl rfl rfl (by decide +kernel) ⟨Nat.le_of_ble_eq_true rfl, Nat.le_of_ble_eq_true rfl⟩) hK hN (hZ.kept hS) hP hD hS hA [0, 2] [] rfl rfl (by decide) (by decide) (by decide) (va_recv hK hP (ci := 8) (q0 := 0) rfl rfl) rfl hl.1 rfl (Nat.le_of_ble_eq_true rfl) dX8_ask_35 ⟨Nat.le_of_ble_eq_true rfl, Nat.le_of_ble_eq_true rfl⟩ (fun u_160 H locs hr_159 hP hD hS => ?_)
            rcases hr_159 with g_161 | g_162 | g_163 | g_164 | g_165 | g_166 | g_167 | g_168
            · exfalso; omega
            · exfalso; omega
            · exfalso; omega
            · exfalso; omega
            · exfalso; omega
            · exfalso; omega
            · refine lv_iload_n hx hb dX8_ask_38 rfl (lv_at hl 0 rfl) ?_
              exact W.iret (v := 50) hx hb hr (fun t ht hW => ⟨⟨50, (), rfl, Or.inr (Or.inr (Or.inr (Or.inr (Or.inr (Or.inr (Or.inr (Or.inr (Or.inr (Or.inl (⟨rfl, (by first | omega | decide), (by first | omega | decide), (by first | omega | decide), (by first | omega | decide), (by first | omega | decide), (by first | omega | decide), (by first | omega | decide), (by first | omega | decide), (by first | omega | decide), (by first | omega | decide)⟩)))))))))), zP_nil, zD_nil⟩, hS.F ht⟩) hS.2.2 dX8_ask_39
            · exfalso; omega
          · exfalso; omega
        · exact absurd c_119 (by decide)
      · refine lv_if_ne (tgt := 26) hx hb dX8_ask_16 (by decide) (fun c_169 => ?_) (fun c_169 => ?_)
        · exact absurd c_169 (by decide)
        · refine lv_aload_n hx hb dX8_ask_19 rfl (lv_at hl 0 rfl) ?_
          refine lv_bipush (v := (-6)) hx hb dX8_ask_20 (by decide) ?_
          skip
          refine zw_V (As := [.int (-6)]) (rest := []) (wr := []) ⟨hx, hb, hml, hown, hts⟩ (c_M_no_6 l D cI cJ cZ cP cS m0 mrf mki mpa mta mla msl mco mhe mso msi msh mce mca mwo mnu mte mwa mke mma mth mtr  H.size) (cwV 1 hts gX8_ask_X8_no rfl rfl rfl (by decide +kernel) ⟨Nat.le_of_ble_eq_true rfl, Nat.le_of_ble_eq_true rfl⟩) hK hN (hZ.kept hS) hP hD hS hA [0, 1] [] rfl rfl (by decide) (by decide) (by decide) (va_recv hK hP (ci := 8) (q0 := 0) rfl rfl) rfl hl.1 rfl (Nat.le_of_ble_eq_true rfl) dX8_ask_22 ⟨Nat.le_of_ble_eq_true rfl, Nat.le_of_ble_eq_true rfl⟩ (fun r_170 u_171 H locs hr_170 hP hD hS => ?_)
          obtain rfl := hr_170
          exact W.iret (v := (-6)) hx hb hr (fun t ht hW => ⟨⟨(-6), (), rfl, Or.inr (Or.inr (Or.inr (Or.inr (Or.inr (Or.inr (Or.inr (Or.inr (Or.inr (Or.inr (Or.inl (⟨rfl, (by first | omega | decide), (by first | omega | decide), (by first | omega | decide), (by first | omega | decide), (by first | omega | decide), (by first | omega | decide), (by first | omega | decide), (by first | omega | decide), (by first | omega | decide)⟩))))))))))), zP_nil, zD_nil⟩, hS.F ht⟩) hS.2.2 dX8_ask_25
      · refine lv_if_ne (tgt := 26) hx hb dX8_ask_16 (by decide) (fun c_172 => ?_) (fun c_172 => ?_)
        · refine lv_aload_n hx hb dX8_ask_26 rfl (lv_at hl 0 rfl) ?_
          refine lv_iload_n hx hb dX8_ask_27 rfl (lv_at hl 1 rfl) ?_
          refine zc_V (As := [.int w]) (rest := []) ⟨hx, hb, hml, hown, hts⟩ (c_M_told l D cI cJ cZ cP cS m0 mrf mki mpa mta mla msl mco mhe mso msi msh mce mca mwo mnu mte mwa mke mma mth mtr (w) (by omega) (by omega)) (cwV 1 hts gX8_ask_X8_told rfl rfl rfl (by decide +kernel) ⟨Nat.le_of_ble_eq_true rfl, Nat.le_of_ble_eq_true rfl⟩) hK hN (hZ.kept hS) hP [0, 2] rfl (va_recv hK hP (ci := 8) (q0 := 0) rfl rfl) rfl hl.1 rfl (Nat.le_of_ble_eq_true rfl) dX8_ask_28 ⟨Nat.le_of_ble_eq_true rfl, Nat.le_of_ble_eq_true rfl⟩ (fun r_173 hr_173 => ?_)
          rcases hr_173 with ⟨rfl, g_174⟩ | ⟨rfl, g_175⟩ | ⟨rfl, g_176⟩ | ⟨rfl, g_177⟩ | ⟨rfl, g_178⟩ | ⟨rfl, g_179⟩ | ⟨rfl, g_180⟩ | ⟨rfl, g_181⟩
          · exfalso; omega
          · exfalso; omega
          · exfalso; omega
          · exfalso; omega
          · exfalso; omega
          · exfalso; omega
          · exfalso; omega
          · refine lv_istore_n (lv' := [(3, .int 0), (0, .ref m0), (1, .int w), (2, .int v)]) hx hb dX8_ask_31 rfl hl (by decide) rfl (fun ls hl => ?_)
            refine lv_aload_n hx hb dX8_ask_32 rfl (lv_at hl 1 rfl) ?_
            refine lv_iload_n hx hb dX8_ask_33 rfl (lv_at hl 2 rfl) ?_
            refine lv_iload_n hx hb dX8_ask_34 rfl (lv_at hl 3 rfl) ?_
            skip
            refine zw_Vv (As := [.int w, .int v]) (rest := []) (wr := []) ⟨hx, hb, hml, hown, hts⟩ (c_M_tells l D cI cJ cZ cP cS m0 mrf mki mpa mta mla msl mco mhe mso msi msh mce mca mwo mnu mte mwa mke mma mth mtr (w) (v) (by omega) (by omega) H.size) (cwV 2 hts gX8_ask_X8_tells rfl rfl rfl (by decide +kernel) ⟨Nat.le_of_ble_eq_true rfl, Nat.le_of_ble_eq_true rfl⟩) hK hN (hZ.kept hS) hP hD hS hA [0, 2] [] rfl rfl (by decide) (by decide) (by decide) (va_recv hK hP (ci := 8) (q0 := 0) rfl rfl) rfl hl.1 rfl (Nat.le_of_ble_eq_true rfl) dX8_ask_35 ⟨Nat.le_of_ble_eq_true rfl, Nat.le_of_ble_eq_true rfl⟩ (fun u_183 H locs hr_182 hP hD hS => ?_)
            rcases hr_182 with g_184 | g_185 | g_186 | g_187 | g_188 | g_189 | g_190 | g_191
            · exfalso; omega
            · exfalso; omega
            · exfalso; omega
            · exfalso; omega
            · exfalso; omega
            · exfalso; omega
            · exfalso; omega
            · refine lv_iload_n hx hb dX8_ask_38 rfl (lv_at hl 0 rfl) ?_
              exact W.iret (v := 0) hx hb hr (fun t ht hW => ⟨⟨0, (), rfl, Or.inr (Or.inr (Or.inr (Or.inr (Or.inr (Or.inr (Or.inr (Or.inr (Or.inr (Or.inr (Or.inr (Or.inl (⟨rfl, (by first | omega | decide), (by first | omega | decide), (by first | omega | decide), (by first | omega | decide), (by first | omega | decide), (by first | omega | decide), (by first | omega | decide), (by first | omega | decide), (by first | omega | decide)⟩)))))))))))), zP_nil, zD_nil⟩, hS.F ht⟩) hS.2.2 dX8_ask_39
        · exact absurd c_172 (by decide)
      · refine lv_if_ne (tgt := 26) hx hb dX8_ask_16 (by decide) (fun c_192 => ?_) (fun c_192 => ?_)
        · exact absurd c_192 (by decide)
        · refine lv_aload_n hx hb dX8_ask_19 rfl (lv_at hl 0 rfl) ?_
          refine lv_bipush (v := (-6)) hx hb dX8_ask_20 (by decide) ?_
          skip
          refine zw_V (As := [.int (-6)]) (rest := []) (wr := []) ⟨hx, hb, hml, hown, hts⟩ (c_M_no_6 l D cI cJ cZ cP cS m0 mrf mki mpa mta mla msl mco mhe mso msi msh mce mca mwo mnu mte mwa mke mma mth mtr  H.size) (cwV 1 hts gX8_ask_X8_no rfl rfl rfl (by decide +kernel) ⟨Nat.le_of_ble_eq_true rfl, Nat.le_of_ble_eq_true rfl⟩) hK hN (hZ.kept hS) hP hD hS hA [0, 1] [] rfl rfl (by decide) (by decide) (by decide) (va_recv hK hP (ci := 8) (q0 := 0) rfl rfl) rfl hl.1 rfl (Nat.le_of_ble_eq_true rfl) dX8_ask_22 ⟨Nat.le_of_ble_eq_true rfl, Nat.le_of_ble_eq_true rfl⟩ (fun r_193 u_194 H locs hr_193 hP hD hS => ?_)
          obtain rfl := hr_193
          exact W.iret (v := (-6)) hx hb hr (fun t ht hW => ⟨⟨(-6), (), rfl, Or.inr (Or.inr (Or.inr (Or.inr (Or.inr (Or.inr (Or.inr (Or.inr (Or.inr (Or.inr (Or.inr (Or.inr (Or.inl (⟨rfl, (by first | omega | decide), (by first | omega | decide), (by first | omega | decide), (by first | omega | decide), (by first | omega | decide), (by first | omega | decide), (by first | omega | decide), (by first | omega | decide), (by first | omega | decide)⟩))))))))))))), zP_nil, zD_nil⟩, hS.F ht⟩) hS.2.2 dX8_ask_25
      · refine lv_if_ne (tgt := 26) hx hb dX8_ask_16 (by decide) (fun c_195 => ?_) (fun c_195 => ?_)
        · refine lv_aload_n hx hb dX8_ask_26 rfl (lv_at hl 0 rfl) ?_
          refine lv_iload_n hx hb dX8_ask_27 rfl (lv_at hl 1 rfl) ?_
          refine zc_V (As := [.int w]) (rest := []) ⟨hx, hb, hml, hown, hts⟩ (c_M_told l D cI cJ cZ cP cS m0 mrf mki mpa mta mla msl mco mhe mso msi msh mce mca mwo mnu mte mwa mke mma mth mtr (w) (by omega) (by omega)) (cwV 1 hts gX8_ask_X8_told rfl rfl rfl (by decide +kernel) ⟨Nat.le_of_ble_eq_true rfl, Nat.le_of_ble_eq_true rfl⟩) hK hN (hZ.kept hS) hP [0, 2] rfl (va_recv hK hP (ci := 8) (q0 := 0) rfl rfl) rfl hl.1 rfl (Nat.le_of_ble_eq_true rfl) dX8_ask_28 ⟨Nat.le_of_ble_eq_true rfl, Nat.le_of_ble_eq_true rfl⟩ (fun r_196 hr_196 => ?_)
          rcases hr_196 with ⟨rfl, g_197⟩ | ⟨rfl, g_198⟩ | ⟨rfl, g_199⟩ | ⟨rfl, g_200⟩ | ⟨rfl, g_201⟩ | ⟨rfl, g_202⟩ | ⟨rfl, g_203⟩ | ⟨rfl, g_204⟩
          · exfalso; omega
          · exfalso; omega
          · exfalso; omega
          · refine lv_istore_n (lv' := [(3, .int 3), (0, .ref m0), (1, .int w), (2, .int v)]) hx hb dX8_ask_31 rfl hl (by decide) rfl (fun ls hl => ?_)
            refine lv_aload_n hx hb dX8_ask_32 rfl (lv_at hl 1 rfl) ?_
            refine lv_iload_n hx hb dX8_ask_33 rfl (lv_at hl 2 rfl) ?_
            refine lv_iload_n hx hb dX8_ask_34 rfl (lv_at hl 3 rfl) ?_
            skip
            refine zw_Vv (As := [.int w, .int v]) (rest := []) (wr := []) ⟨hx, hb, hml, hown, hts⟩ (c_M_tells l D cI cJ cZ cP cS m0 mrf mki mpa mta mla msl mco mhe mso msi msh mce mca mwo mnu mte mwa mke mma mth mtr (w) (v) (by omega) (by omega) H.size) (cwV 2 hts gX8_ask_X8_tells rfl rfl rfl (by decide +kernel) ⟨Nat.le_of_ble_eq_true rfl, Nat.le_of_ble_eq_true rfl⟩) hK hN (hZ.kept hS) hP hD hS hA [0, 2] [] rfl rfl (by decide) (by decide) (by decide) (va_recv hK hP (ci := 8) (q0 := 0) rfl rfl) rfl hl.1 rfl (Nat.le_of_ble_eq_true rfl) dX8_ask_35 ⟨Nat.le_of_ble_eq_true rfl, Nat.le_of_ble_eq_true rfl⟩ (fun u_206 H locs hr_205 hP hD hS => ?_)
            rcases hr_205 with g_207 | g_208 | g_209 | g_210 | g_211 | g_212 | g_213 | g_214
            · exfalso; omega
            · exfalso; omega
            · exfalso; omega
            · refine lv_iload_n hx hb dX8_ask_38 rfl (lv_at hl 0 rfl) ?_
              exact W.iret (v := 3) hx hb hr (fun t ht hW => ⟨⟨3, (), rfl, Or.inr (Or.inr (Or.inr (Or.inr (Or.inr (Or.inr (Or.inr (Or.inr (Or.inr (Or.inr (Or.inr (Or.inr (Or.inr (Or.inl (⟨rfl, (by first | omega | decide), (by first | omega | decide), (by first | omega | decide), (by first | omega | decide), (by first | omega | decide), (by first | omega | decide), (by first | omega | decide), (by first | omega | decide), (by first | omega | decide)⟩)))))))))))))), zP_nil, zD_nil⟩, hS.F ht⟩) hS.2.2 dX8_ask_39
            · exfalso; omega
            · exfalso; omega
            · exfalso; omega
            · exfalso; omega
          · exfalso; omega
          · exfalso; omega
          · exfalso; omega
          · exfalso; omega
        · exact absurd c_195 (by decide)
      · refine lv_if_ne (tgt := 26) hx hb dX8_ask_16 (by decide) (fun c_215 => ?_) (fun c_215 => ?_)
        · exact absurd c_215 (by decide)
        · refine lv_aload_n hx hb dX8_ask_19 rfl (lv_at hl 0 rfl) ?_
          refine lv_bipush (v := (-6)) hx hb dX8_ask_20 (by decide) ?_
          skip
          refine zw_V (As := [.int (-6)]) (rest := []) (wr := []) ⟨hx, hb, hml, hown, hts⟩ (c_M_no_6 l D cI cJ cZ cP cS m0 mrf mki mpa mta mla msl mco mhe mso msi msh mce mca mwo mnu mte mwa mke mma mth mtr  H.size) (cwV 1 hts gX8_ask_X8_no rfl rfl rfl (by decide +kernel) ⟨Nat.le_of_ble_eq_true rfl, Nat.le_of_ble_eq_true rfl⟩) hK hN (hZ.kept hS) hP hD hS hA [0, 1] [] rfl rfl (by decide) (by decide) (by decide) (va_recv hK hP (ci := 8) (q0 := 0) rfl rfl) rfl hl.1 rfl (Nat.le_of_ble_eq_true rfl) dX8_ask_22 ⟨Nat.le_of_ble_eq_true rfl, Nat.le_of_ble_eq_true rfl⟩ (fun r_216 u_217 H locs hr_216 hP hD hS => ?_)
          obtain rfl := hr_216
          exact W.iret (v := (-6)) hx hb hr (fun t ht hW => ⟨⟨(-6), (), rfl, Or.inr (Or.inr (Or.inr (Or.inr (Or.inr (Or.inr (Or.inr (Or.inr (Or.inr (Or.inr (Or.inr (Or.inr (Or.inr (Or.inr (Or.inl (⟨rfl, (by first | omega | decide), (by first | omega | decide), (by first | omega | decide), (by first | omega | decide), (by first | omega | decide), (by first | omega | decide), (by first | omega | decide)⟩))))))))))))))), zP_nil, zD_nil⟩, hS.F ht⟩) hS.2.2 dX8_ask_25
      · refine lv_if_ne (tgt := 26) hx hb dX8_ask_16 (by decide) (fun c_218 => ?_) (fun c_218 => ?_)
        · refine lv_aload_n hx hb dX8_ask_26 rfl (lv_at hl 0 rfl) ?_
          refine lv_iload_n hx hb dX8_ask_27 rfl (lv_at hl 1 rfl) ?_
          refine zc_V (As := [.int w]) (rest := []) ⟨hx, hb, hml, hown, hts⟩ (c_M_told l D cI cJ cZ cP cS m0 mrf mki mpa mta mla msl mco mhe mso msi msh mce mca mwo mnu mte mwa mke mma mth mtr (w) (by omega) (by omega)) (cwV 1 hts gX8_ask_X8_told rfl rfl rfl (by decide +kernel) ⟨Nat.le_of_ble_eq_true rfl, Nat.le_of_ble_eq_true rfl⟩) hK hN (hZ.kept hS) hP [0, 2] rfl (va_recv hK hP (ci := 8) (q0 := 0) rfl rfl) rfl hl.1 rfl (Nat.le_of_ble_eq_true rfl) dX8_ask_28 ⟨Nat.le_of_ble_eq_true rfl, Nat.le_of_ble_eq_true rfl⟩ (fun r_219 hr_219 => ?_)
          rcases hr_219 with ⟨rfl, g_220⟩ | ⟨rfl, g_221⟩ | ⟨rfl, g_222⟩ | ⟨rfl, g_223⟩ | ⟨rfl, g_224⟩ | ⟨rfl, g_225⟩ | ⟨rfl, g_226⟩ | ⟨rfl, g_227⟩
          · exfalso; omega
          · refine lv_istore_n (lv' := [(3, .int 60), (0, .ref m0), (1, .int w), (2, .int v)]) hx hb dX8_ask_31 rfl hl (by decide) rfl (fun ls hl => ?_)
            refine lv_aload_n hx hb dX8_ask_32 rfl (lv_at hl 1 rfl) ?_
            refine lv_iload_n hx hb dX8_ask_33 rfl (lv_at hl 2 rfl) ?_
            refine lv_iload_n hx hb dX8_ask_34 rfl (lv_at hl 3 rfl) ?_
            skip
            refine zw_Vv (As := [.int w, .int v]) (rest := []) (wr := []) ⟨hx, hb, hml, hown, hts⟩ (c_M_tells l D cI cJ cZ cP cS m0 mrf mki mpa mta mla msl mco mhe mso msi msh mce mca mwo mnu mte mwa mke mma mth mtr (w) (v) (by omega) (by omega) H.size) (cwV 2 hts gX8_ask_X8_tells rfl rfl rfl (by decide +kernel) ⟨Nat.le_of_ble_eq_true rfl, Nat.le_of_ble_eq_true rfl⟩) hK hN (hZ.kept hS) hP hD hS hA [0, 2] [] rfl rfl (by decide) (by decide) (by decide) (va_recv hK hP (ci := 8) (q0 := 0) rfl rfl) rfl hl.1 rfl (Nat.le_of_ble_eq_true rfl) dX8_ask_35 ⟨Nat.le_of_ble_eq_true rfl, Nat.le_of_ble_eq_true rfl⟩ (fun u_229 H locs hr_228 hP hD hS => ?_)
            rcases hr_228 with g_230 | g_231 | g_232 | g_233 | g_234 | g_235 | g_236 | g_237
            · exfalso; omega
            · refine lv_iload_n hx hb dX8_ask_38 rfl (lv_at hl 0 rfl) ?_
              exact W.iret (v := 60) hx hb hr (fun t ht hW => ⟨⟨60, (), rfl, Or.inr (Or.inr (Or.inr (Or.inr (Or.inr (Or.inr (Or.inr (Or.inr (Or.inr (Or.inr (Or.inr (Or.inr (Or.inr (Or.inr (Or.inr (Or.inl (⟨rfl, (by first | omega | decide), (by first | omega | decide), (by first | omega | decide), (by first | omega | decide), (by first | omega | decide), (by first | omega | decide), (by first | omega | decide)⟩)))))))))))))))), zP_nil, zD_nil⟩, hS.F ht⟩) hS.2.2 dX8_ask_39
            · exfalso; omega
            · exfalso; omega
            · exfalso; omega
            · exfalso; omega
            · exfalso; omega
            · exfalso; omega
          · exfalso; omega
          · exfalso; omega
          · exfalso; omega
          · exfalso; omega
          · exfalso; omega
          · exfalso; omega
        · exact absurd c_218 (by decide)
      · refine lv_if_ne (tgt := 26) hx hb dX8_ask_16 (by decide) (fun c_238 => ?_) (fun c_238 => ?_)
        · exact absurd c_238 (by decide)
        · refine lv_aload_n hx hb dX8_ask_19 rfl (lv_at hl 0 rfl) ?_
          refine lv_bipush (v := (-6)) hx hb dX8_ask_20 (by decide) ?_
          skip
          refine zw_V (As := [.int (-6)]) (rest := []) (wr := []) ⟨hx, hb, hml, hown, hts⟩ (c_M_no_6 l D cI cJ cZ cP cS m0 mrf mki mpa mta mla msl mco mhe mso msi msh mce mca mwo mnu mte mwa mke mma mth mtr  H.size) (cwV 1 hts gX8_ask_X8_no rfl rfl rfl (by decide +kernel) ⟨Nat.le_of_ble_eq_true rfl, Nat.le_of_ble_eq_true rfl⟩) hK hN (hZ.kept hS) hP hD hS hA [0, 1] [] rfl rfl (by decide) (by decide) (by decide) (va_recv hK hP (ci := 8) (q0 := 0) rfl rfl) rfl hl.1 rfl (Nat.le_of_ble_eq_true rfl) dX8_ask_22 ⟨Nat.le_of_ble_eq_true rfl, Nat.le_of_ble_eq_true rfl⟩ (fun r_239 u_240 H locs hr_239 hP hD hS => ?_)
          obtain rfl := hr_239
          exact W.iret (v := (-6)) hx hb hr (fun t ht hW => ⟨⟨(-6), (), rfl, Or.inr (Or.inr (Or.inr (Or.inr (Or.inr (Or.inr (Or.inr (Or.inr (Or.inr (Or.inr (Or.inr (Or.inr (Or.inr (Or.inr (Or.inr (Or.inr (Or.inl (⟨rfl, (by first | omega | decide), (by first | omega | decide), (by first | omega | decide), (by first | omega | decide), (by first | omega | decide), (by first | omega | decide)⟩))))))))))))))))), zP_nil, zD_nil⟩, hS.F ht⟩) hS.2.2 dX8_ask_25
      · refine lv_if_ne (tgt := 26) hx hb dX8_ask_16 (by decide) (fun c_241 => ?_) (fun c_241 => ?_)
        · refine lv_aload_n hx hb dX8_ask_26 rfl (lv_at hl 0 rfl) ?_
          refine lv_iload_n hx hb dX8_ask_27 rfl (lv_at hl 1 rfl) ?_
          refine zc_V (As := [.int w]) (rest := []) ⟨hx, hb, hml, hown, hts⟩ (c_M_told l D cI cJ cZ cP cS m0 mrf mki mpa mta mla msl mco mhe mso msi msh mce mca mwo mnu mte mwa mke mma mth mtr (w) (by omega) (by omega)) (cwV 1 hts gX8_ask_X8_told rfl rfl rfl (by decide +kernel) ⟨Nat.le_of_ble_eq_true rfl, Nat.le_of_ble_eq_true rfl⟩) hK hN (hZ.kept hS) hP [0, 2] rfl (va_recv hK hP (ci := 8) (q0 := 0) rfl rfl) rfl hl.1 rfl (Nat.le_of_ble_eq_true rfl) dX8_ask_28 ⟨Nat.le_of_ble_eq_true rfl, Nat.le_of_ble_eq_true rfl⟩ (fun r_242 hr_242 => ?_)
          rcases hr_242 with ⟨rfl, g_243⟩ | ⟨rfl, g_244⟩ | ⟨rfl, g_245⟩ | ⟨rfl, g_246⟩ | ⟨rfl, g_247⟩ | ⟨rfl, g_248⟩ | ⟨rfl, g_249⟩ | ⟨rfl, g_250⟩
          · refine lv_istore_n (lv' := [(3, .int 0), (0, .ref m0), (1, .int w), (2, .int v)]) hx hb dX8_ask_31 rfl hl (by decide) rfl (fun ls hl => ?_)
            refine lv_aload_n hx hb dX8_ask_32 rfl (lv_at hl 1 rfl) ?_
            refine lv_iload_n hx hb dX8_ask_33 rfl (lv_at hl 2 rfl) ?_
            refine lv_iload_n hx hb dX8_ask_34 rfl (lv_at hl 3 rfl) ?_
            skip
            refine zw_Vv (As := [.int w, .int v]) (rest := []) (wr := []) ⟨hx, hb, hml, hown, hts⟩ (c_M_tells l D cI cJ cZ cP cS m0 mrf mki mpa mta mla msl mco mhe mso msi msh mce mca mwo mnu mte mwa mke mma mth mtr (w) (v) (by omega) (by omega) H.size) (cwV 2 hts gX8_ask_X8_tells rfl rfl rfl (by decide +kernel) ⟨Nat.le_of_ble_eq_true rfl, Nat.le_of_ble_eq_true rfl⟩) hK hN (hZ.kept hS) hP hD hS hA [0, 2] [] rfl rfl (by decide) (by decide) (by decide) (va_recv hK hP (ci := 8) (q0 := 0) rfl rfl) rfl hl.1 rfl (Nat.le_of_ble_eq_true rfl) dX8_ask_35 ⟨Nat.le_of_ble_eq_true rfl, Nat.le_of_ble_eq_true rfl⟩ (fun u_252 H locs hr_251 hP hD hS => ?_)
            rcases hr_251 with g_253 | g_254 | g_255 | g_256 | g_257 | g_258 | g_259 | g_260
            · refine lv_iload_n hx hb dX8_ask_38 rfl (lv_at hl 0 rfl) ?_
              exact W.iret (v := 0) hx hb hr (fun t ht hW => ⟨⟨0, (), rfl, Or.inr (Or.inr (Or.inr (Or.inr (Or.inr (Or.inr (Or.inr (Or.inr (Or.inr (Or.inr (Or.inr (Or.inr (Or.inr (Or.inr (Or.inr (Or.inr (Or.inr (Or.inl (⟨rfl, (by first | omega | decide), (by first | omega | decide), (by first | omega | decide), (by first | omega | decide), (by first | omega | decide), (by first | omega | decide)⟩)))))))))))))))))), zP_nil, zD_nil⟩, hS.F ht⟩) hS.2.2 dX8_ask_39
            · exfalso; omega
            · exfalso; omega
            · exfalso; omega
            · exfalso; omega
            · exfalso; omega
            · exfalso; omega
            · exfalso; omega
          · exfalso; omega
          · exfalso; omega
          · exfalso; omega
          · exfalso; omega
          · exfalso; omega
          · exfalso; omega
          · exfalso; omega
        · exact absurd c_241 (by decide)
      · refine lv_if_ne (tgt := 26) hx hb dX8_ask_16 (by decide) (fun c_261 => ?_) (fun c_261 => ?_)
        · exact absurd c_261 (by decide)
        · refine lv_aload_n hx hb dX8_ask_19 rfl (lv_at hl 0 rfl) ?_
          refine lv_bipush (v := (-6)) hx hb dX8_ask_20 (by decide) ?_
          skip
          refine zw_V (As := [.int (-6)]) (rest := []) (wr := []) ⟨hx, hb, hml, hown, hts⟩ (c_M_no_6 l D cI cJ cZ cP cS m0 mrf mki mpa mta mla msl mco mhe mso msi msh mce mca mwo mnu mte mwa mke mma mth mtr  H.size) (cwV 1 hts gX8_ask_X8_no rfl rfl rfl (by decide +kernel) ⟨Nat.le_of_ble_eq_true rfl, Nat.le_of_ble_eq_true rfl⟩) hK hN (hZ.kept hS) hP hD hS hA [0, 1] [] rfl rfl (by decide) (by decide) (by decide) (va_recv hK hP (ci := 8) (q0 := 0) rfl rfl) rfl hl.1 rfl (Nat.le_of_ble_eq_true rfl) dX8_ask_22 ⟨Nat.le_of_ble_eq_true rfl, Nat.le_of_ble_eq_true rfl⟩ (fun r_262 u_263 H locs hr_262 hP hD hS => ?_)
          obtain rfl := hr_262
          exact W.iret (v := (-6)) hx hb hr (fun t ht hW => ⟨⟨(-6), (), rfl, Or.inr (Or.inr (Or.inr (Or.inr (Or.inr (Or.inr (Or.inr (Or.inr (Or.inr (Or.inr (Or.inr (Or.inr (Or.inr (Or.inr (Or.inr (Or.inr (Or.inr (Or.inr (Or.inl (⟨rfl, (by first | omega | decide), (by first | omega | decide), (by first | omega | decide), (by first | omega | decide)⟩))))))))))))))))))), zP_nil, zD_nil⟩, hS.F ht⟩) hS.2.2 dX8_ask_25
      · refine lv_if_ne (tgt := 26) hx hb dX8_ask_16 (by decide) (fun c_264 => ?_) (fun c_264 => ?_)
        · exact absurd c_264 (by decide)
        · refine lv_aload_n hx hb dX8_ask_19 rfl (lv_at hl 0 rfl) ?_
          refine lv_bipush (v := (-6)) hx hb dX8_ask_20 (by decide) ?_
          skip
          refine zw_V (As := [.int (-6)]) (rest := []) (wr := []) ⟨hx, hb, hml, hown, hts⟩ (c_M_no_6 l D cI cJ cZ cP cS m0 mrf mki mpa mta mla msl mco mhe mso msi msh mce mca mwo mnu mte mwa mke mma mth mtr  H.size) (cwV 1 hts gX8_ask_X8_no rfl rfl rfl (by decide +kernel) ⟨Nat.le_of_ble_eq_true rfl, Nat.le_of_ble_eq_true rfl⟩) hK hN (hZ.kept hS) hP hD hS hA [0, 1] [] rfl rfl (by decide) (by decide) (by decide) (va_recv hK hP (ci := 8) (q0 := 0) rfl rfl) rfl hl.1 rfl (Nat.le_of_ble_eq_true rfl) dX8_ask_22 ⟨Nat.le_of_ble_eq_true rfl, Nat.le_of_ble_eq_true rfl⟩ (fun r_265 u_266 H locs hr_265 hP hD hS => ?_)
          obtain rfl := hr_265
          exact W.iret (v := (-6)) hx hb hr (fun t ht hW => ⟨⟨(-6), (), rfl, Or.inr (Or.inr (Or.inr (Or.inr (Or.inr (Or.inr (Or.inr (Or.inr (Or.inr (Or.inr (Or.inr (Or.inr (Or.inr (Or.inr (Or.inr (Or.inr (Or.inr (Or.inr (Or.inr (Or.inl (⟨rfl, (by first | omega | decide), (by first | omega | decide), (by first | omega | decide), (by first | omega | decide), (by first | omega | decide)⟩)))))))))))))))))))), zP_nil, zD_nil⟩, hS.F ht⟩) hS.2.2 dX8_ask_25
      · refine lv_if_ne (tgt := 26) hx hb dX8_ask_16 (by decide) (fun c_267 => ?_) (fun c_267 => ?_)
        · refine lv_aload_n hx hb dX8_ask_26 rfl (lv_at hl 0 rfl) ?_
          refine lv_iload_n hx hb dX8_ask_27 rfl (lv_at hl 1 rfl) ?_
          refine zc_V (As := [.int w]) (rest := []) ⟨hx, hb, hml, hown, hts⟩ (c_M_told l D cI cJ cZ cP cS m0 mrf mki mpa mta mla msl mco mhe mso msi msh mce mca mwo mnu mte mwa mke mma mth mtr (w) (by omega) (by omega)) (cwV 1 hts gX8_ask_X8_told rfl rfl rfl (by decide +kernel) ⟨Nat.le_of_ble_eq_true rfl, Nat.le_of_ble_eq_true rfl⟩) hK hN (hZ.kept hS) hP [0, 2] rfl (va_recv hK hP (ci := 8) (q0 := 0) rfl rfl) rfl hl.1 rfl (Nat.le_of_ble_eq_true rfl) dX8_ask_28 ⟨Nat.le_of_ble_eq_true rfl, Nat.le_of_ble_eq_true rfl⟩ (fun r_268 hr_268 => ?_)
          rcases hr_268 with ⟨rfl, g_269⟩ | ⟨rfl, g_270⟩ | ⟨rfl, g_271⟩ | ⟨rfl, g_272⟩ | ⟨rfl, g_273⟩ | ⟨rfl, g_274⟩ | ⟨rfl, g_275⟩ | ⟨rfl, g_276⟩
          · exfalso; omega
          · exfalso; omega
          · exfalso; omega
          · refine lv_istore_n (lv' := [(3, .int 3), (0, .ref m0), (1, .int w), (2, .int v)]) hx hb dX8_ask_31 rfl hl (by decide) rfl (fun ls hl => ?_)
            refine lv_aload_n hx hb dX8_ask_32 rfl (lv_at hl 1 rfl) ?_
            refine lv_iload_n hx hb dX8_ask_33 rfl (lv_at hl 2 rfl) ?_
            refine lv_iload_n hx hb dX8_ask_34 rfl (lv_at hl 3 rfl) ?_
            skip
            refine zw_Vv (As := [.int w, .int v]) (rest := []) (wr := []) ⟨hx, hb, hml, hown, hts⟩ (c_M_tells l D cI cJ cZ cP cS m0 mrf mki mpa mta mla msl mco mhe mso msi msh mce mca mwo mnu mte mwa mke mma mth mtr (w) (v) (by omega) (by omega) H.size) (cwV 2 hts gX8_ask_X8_tells rfl rfl rfl (by decide +kernel) ⟨Nat.le_of_ble_eq_true rfl, Nat.le_of_ble_eq_true rfl⟩) hK hN (hZ.kept hS) hP hD hS hA [0, 2] [] rfl rfl (by decide) (by decide) (by decide) (va_recv hK hP (ci := 8) (q0 := 0) rfl rfl) rfl hl.1 rfl (Nat.le_of_ble_eq_true rfl) dX8_ask_35 ⟨Nat.le_of_ble_eq_true rfl, Nat.le_of_ble_eq_true rfl⟩ (fun u_278 H locs hr_277 hP hD hS => ?_)
            rcases hr_277 with g_279 | g_280 | g_281 | g_282 | g_283 | g_284 | g_285 | g_286
            · exfalso; omega
            · exfalso; omega
            · exfalso; omega
            · refine lv_iload_n hx hb dX8_ask_38 rfl (lv_at hl 0 rfl) ?_
              exact W.iret (v := 3) hx hb hr (fun t ht hW => ⟨⟨3, (), rfl, Or.inr (Or.inr (Or.inr (Or.inr (Or.inr (Or.inr (Or.inr (Or.inr (Or.inr (Or.inr (Or.inr (Or.inr (Or.inr (Or.inr (Or.inr (Or.inr (Or.inr (Or.inr (Or.inr (Or.inr (⟨rfl, (by first | omega | decide), (by first | omega | decide), (by first | omega | decide), (by first | omega | decide), (by first | omega | decide)⟩)))))))))))))))))))), zP_nil, zD_nil⟩, hS.F ht⟩) hS.2.2 dX8_ask_39
            · exfalso; omega
            · exfalso; omega
            · exfalso; omega
            · exfalso; omega
          · exfalso; omega
          · exfalso; omega
          · exfalso; omega
          · exfalso; omega
        · exact absurd c_267 (by decide)
set_option maxHeartbeats 4000000 in
set_option maxRecDepth 100000 in
theorem c_M_jacket (l : Launch) (D : va_G) (cI cJ cZ cP cS : ClassId) (m0 mrf mki mpa mta mla msl mco mhe mso msi msh mce mca mwo mnu mte mwa mke mma mth mtr : Nat) (s_ : Int32)  (sz : Nat) : Met l yX8_jacket wsX8_jacket ({ frames := 2, cells := 0, slots := 0, locals := 42 }) (va_Pc [.ref m0, .int s_] (zW D (zKT cI cJ cZ cP cS) [(m0, .inr (8, (.int 0 :: .int 20 :: .int 0 :: .int 0 :: .int 0 :: .int 60 :: .int 0 :: .int 3 :: .int 1 :: .int (-1) :: .ref mrf :: .ref mki :: .ref mpa :: .ref mta :: .ref mla :: .ref msl :: .ref mco :: .ref mhe :: .ref mso :: .ref msi :: .ref msh :: .ref mce :: .ref mca :: .ref mwo :: .ref mnu :: .ref mte :: .int 0 :: .int 0 :: .int 0 :: .int 0 :: .int 0 :: .ref mwa :: .ref mke :: .ref mma :: .ref mth :: .ref mtr :: .int 0 :: .int 0 :: []))), (mrf, .inl (cI, 8, .inl (fun _ => 0))), (mhe, .inl (cI, 8, .inl (fun _ => 0)))] sz)) (va_Qi (fun (r : Int32) (_ : Unit) => (r = (-1) ∧ s_.toInt < 0) ∨ (r = (-1) ∧ 0 ≤ s_.toInt ∧ 8 ≤ s_.toInt) ∨ (r = (-3) ∧ 0 ≤ s_.toInt ∧ s_.toInt < 8)) (zB D [(m0, .inr (8, (.int 0 :: .int 20 :: .int 0 :: .int 0 :: .int 0 :: .int 60 :: .int 0 :: .int 3 :: .int 1 :: .int (-1) :: .ref mrf :: .ref mki :: .ref mpa :: .ref mta :: .ref mla :: .ref msl :: .ref mco :: .ref mhe :: .ref mso :: .ref msi :: .ref msh :: .ref mce :: .ref mca :: .ref mwo :: .ref mnu :: .ref mte :: .int 0 :: .int 0 :: .int 0 :: .int 0 :: .int 0 :: .ref mwa :: .ref mke :: .ref mma :: .ref mth :: .ref mtr :: .int 0 :: .int 0 :: []))), (mrf, .inl (cI, 8, .inl (fun _ => 0))), (mhe, .inl (cI, 8, .inl (fun _ => 0)))] sz (fun (_ : Unit) => ([] : va_W))) (va_A [(m0, .inr (8, (.int 0 :: .int 20 :: .int 0 :: .int 0 :: .int 0 :: .int 60 :: .int 0 :: .int 3 :: .int 1 :: .int (-1) :: .ref mrf :: .ref mki :: .ref mpa :: .ref mta :: .ref mla :: .ref msl :: .ref mco :: .ref mhe :: .ref mso :: .ref msi :: .ref msh :: .ref mce :: .ref mca :: .ref mwo :: .ref mnu :: .ref mte :: .int 0 :: .int 0 :: .int 0 :: .int 0 :: .int 0 :: .ref mwa :: .ref mke :: .ref mma :: .ref mth :: .ref mtr :: .int 0 :: .int 0 :: []))), (mrf, .inl (cI, 8, .inl (fun _ => 0))), (mhe, .inl (cI, 8, .inl (fun _ => 0)))] sz)) 0 0 (va_A [(m0, .inr (8, (.int 0 :: .int 20 :: .int 0 :: .int 0 :: .int 0 :: .int 60 :: .int 0 :: .int 3 :: .int 1 :: .int (-1) :: .ref mrf :: .ref mki :: .ref mpa :: .ref mta :: .ref mla :: .ref msl :: .ref mco :: .ref mhe :: .ref mso :: .ref msi :: .ref msh :: .ref mce :: .ref mca :: .ref mwo :: .ref mnu :: .ref mte :: .int 0 :: .int 0 :: .int 0 :: .int 0 :: .int 0 :: .ref mwa :: .ref mke :: .ref mma :: .ref mth :: .ref mtr :: .int 0 :: .int 0 :: []))), (mrf, .inl (cI, 8, .inl (fun _ => 0))), (mhe, .inl (cI, 8, .inl (fun _ => 0)))] sz) := by
  refine Met.ofW (cc := cX8_jacket) (maxL := 5) (ret := (some .int)) (by decide) rfl ?_
  intro p e s m args below meth c s₁ B hml hv
  obtain ⟨rfl, hsz, hP, hK, hD0, hN, hZ⟩ := hv
  have hx := B.exec
  have hb := B.bytes
  have hr := B.returns
  have hts := atoms_spec (ws := wsX8_jacket) B.pre
  have hown : s.vm.findClass RX8 = some m.cls := findClass_of_methodNamed B.named
  have hlocks := B.notSynchronized
  subst hsz
  have hD := hD0.self (sz := s.heap.size)
  have hA : ∀ q : Nat, s.heap.size ≤ q → va_A [(m0, .inr (8, (.int 0 :: .int 20 :: .int 0 :: .int 0 :: .int 0 :: .int 60 :: .int 0 :: .int 3 :: .int 1 :: .int (-1) :: .ref mrf :: .ref mki :: .ref mpa :: .ref mta :: .ref mla :: .ref msl :: .ref mco :: .ref mhe :: .ref mso :: .ref msi :: .ref msh :: .ref mce :: .ref mca :: .ref mwo :: .ref mnu :: .ref mte :: .int 0 :: .int 0 :: .int 0 :: .int 0 :: .int 0 :: .ref mwa :: .ref mke :: .ref mma :: .ref mth :: .ref mtr :: .int 0 :: .int 0 :: []))), (mrf, .inl (cI, 8, .inl (fun _ => 0))), (mhe, .inl (cI, 8, .inl (fun _ => 0)))] s.heap.size q := fun q h => Or.inr h
  have hS : va_S (va_A [(m0, .inr (8, (.int 0 :: .int 20 :: .int 0 :: .int 0 :: .int 0 :: .int 60 :: .int 0 :: .int 3 :: .int 1 :: .int (-1) :: .ref mrf :: .ref mki :: .ref mpa :: .ref mta :: .ref mla :: .ref msl :: .ref mco :: .ref mhe :: .ref mso :: .ref msi :: .ref msh :: .ref mce :: .ref mca :: .ref mwo :: .ref mnu :: .ref mte :: .int 0 :: .int 0 :: .int 0 :: .int 0 :: .int 0 :: .ref mwa :: .ref mke :: .ref mma :: .ref mth :: .ref mtr :: .int 0 :: .int 0 :: []))), (mrf, .inl (cI, 8, .inl (fun _ => 0))), (mhe, .inl (cI, 8, .inl (fun _ => 0)))] s.heap.size) s.heap s.heap [] := va_S.rf
  replace hP : va_P D vwCl _ s.heap := hP
  have hl := lv_entry ([.ref m0, .int s_]) (n := 5) (Nat.le_of_ble_eq_true rfl)
  rw [lg_entry_eq]
  generalize (lg_sl ([.ref m0, .int s_]) ++ List.replicate (5 - (lg_sl ([.ref m0, .int s_])).length) Slot.unset).toArray = ls at hl ⊢
  replace hl : lv_has ls 5 [(0, .ref m0), (1, .int s_)] := hl
  refine zw_start (fun H locs hH hL => ?_)
  replace hP : va_P D vwCl [(m0, .inr (8, (.int 0 :: .int 20 :: .int 0 :: .int 0 :: .int 0 :: .int 60 :: .int 0 :: .int 3 :: .int 1 :: .int (-1) :: .ref mrf :: .ref mki :: .ref mpa :: .ref mta :: .ref mla :: .ref msl :: .ref mco :: .ref mhe :: .ref mso :: .ref msi :: .ref msh :: .ref mce :: .ref mca :: .ref mwo :: .ref mnu :: .ref mte :: .int 0 :: .int 0 :: .int 0 :: .int 0 :: .int 0 :: .ref mwa :: .ref mke :: .ref mma :: .ref mth :: .ref mtr :: .int 0 :: .int 0 :: []))), (mrf, .inl (cI, 8, .inl (fun _ => 0))), (mhe, .inl (cI, 8, .inl (fun _ => 0)))] H := by rw [hH]; exact hP
  replace hS : va_S (va_A [(m0, .inr (8, (.int 0 :: .int 20 :: .int 0 :: .int 0 :: .int 0 :: .int 60 :: .int 0 :: .int 3 :: .int 1 :: .int (-1) :: .ref mrf :: .ref mki :: .ref mpa :: .ref mta :: .ref mla :: .ref msl :: .ref mco :: .ref mhe :: .ref mso :: .ref msi :: .ref msh :: .ref mce :: .ref mca :: .ref mwo :: .ref mnu :: .ref mte :: .int 0 :: .int 0 :: .int 0 :: .int 0 :: .int 0 :: .ref mwa :: .ref mke :: .ref mma :: .ref mth :: .ref mtr :: .int 0 :: .int 0 :: []))), (mrf, .inl (cI, 8, .inl (fun _ => 0))), (mhe, .inl (cI, 8, .inl (fun _ => 0)))] s.heap.size) s.heap H locs := by rw [hH, hL]; exact hS
  clear hH hL
  refine lv_aload_n hx hb dX8_jacket_0 rfl (lv_at hl 0 rfl) ?_
  refine lv_iload_n hx hb dX8_jacket_1 rfl (lv_at hl 1 rfl) ?_
  refine zc_V (As := [.int s_]) (rest := []) ⟨hx, hb, hml, hown, hts⟩ (c_M_wanted l D cI cJ cZ cP cS m0 mrf mki mpa mta mla msl mco mhe mso msi msh mce mca mwo mnu mte mwa mke mma mth mtr (s_) ) (cwV 1 hts gX8_jacket_X8_wanted rfl rfl rfl (by decide +kernel) ⟨Nat.le_of_ble_eq_true rfl, Nat.le_of_ble_eq_true rfl⟩) hK hN (hZ.kept hS) hP [0, 2] rfl (va_recv hK hP (ci := 8) (q0 := 0) rfl rfl) rfl hl.1 rfl (Nat.le_of_ble_eq_true rfl) dX8_jacket_2 ⟨Nat.le_of_ble_eq_true rfl, Nat.le_of_ble_eq_true rfl⟩ (fun r_1 hr_1 => ?_)
  rcases hr_1 with ⟨rfl, g_2⟩ | ⟨rfl, g_3, g_4⟩ | ⟨rfl, g_5, g_6⟩
  · refine lv_istore_n (lv' := [(2, .int (-1)), (0, .ref m0), (1, .int s_)]) hx hb dX8_jacket_5 rfl hl (by decide) rfl (fun ls hl => ?_)
    refine lv_iload_n hx hb dX8_jacket_6 rfl (lv_at hl 0 rfl) ?_
    refine lv_if_eq (tgt := 16) hx hb dX8_jacket_7 (by decide) (fun c_7 => ?_) (fun c_7 => ?_)
    · exact absurd c_7 (by decide)
    · refine lv_aload_n hx hb dX8_jacket_10 rfl (lv_at hl 1 rfl) ?_
      refine lv_iload_n hx hb dX8_jacket_11 rfl (lv_at hl 0 rfl) ?_
      skip
      refine zw_V (As := [.int (-1)]) (rest := []) (wr := []) ⟨hx, hb, hml, hown, hts⟩ (c_M_no_1 l D cI cJ cZ cP cS m0 mrf mki mpa mta mla msl mco mhe mso msi msh mce mca mwo mnu mte mwa mke mma mth mtr  H.size) (cwV 1 hts gX8_jacket_X8_no rfl rfl rfl (by decide +kernel) ⟨Nat.le_of_ble_eq_true rfl, Nat.le_of_ble_eq_true rfl⟩) hK hN (hZ.kept hS) hP hD hS hA [0, 1] [] rfl rfl (by decide) (by decide) (by decide) (va_recv hK hP (ci := 8) (q0 := 0) rfl rfl) rfl hl.1 rfl (Nat.le_of_ble_eq_true rfl) dX8_jacket_12 ⟨Nat.le_of_ble_eq_true rfl, Nat.le_of_ble_eq_true rfl⟩ (fun r_8 u_9 H locs hr_8 hP hD hS => ?_)
      obtain rfl := hr_8
      exact W.iret (v := (-1)) hx hb hr (fun t ht hW => ⟨⟨(-1), (), rfl, Or.inl (⟨rfl, (by first | omega | decide)⟩), zP_nil, zD_nil⟩, hS.F ht⟩) hS.2.2 dX8_jacket_15
  · refine lv_istore_n (lv' := [(2, .int (-1)), (0, .ref m0), (1, .int s_)]) hx hb dX8_jacket_5 rfl hl (by decide) rfl (fun ls hl => ?_)
    refine lv_iload_n hx hb dX8_jacket_6 rfl (lv_at hl 0 rfl) ?_
    refine lv_if_eq (tgt := 16) hx hb dX8_jacket_7 (by decide) (fun c_10 => ?_) (fun c_10 => ?_)
    · exact absurd c_10 (by decide)
    · refine lv_aload_n hx hb dX8_jacket_10 rfl (lv_at hl 1 rfl) ?_
      refine lv_iload_n hx hb dX8_jacket_11 rfl (lv_at hl 0 rfl) ?_
      skip
      refine zw_V (As := [.int (-1)]) (rest := []) (wr := []) ⟨hx, hb, hml, hown, hts⟩ (c_M_no_1 l D cI cJ cZ cP cS m0 mrf mki mpa mta mla msl mco mhe mso msi msh mce mca mwo mnu mte mwa mke mma mth mtr  H.size) (cwV 1 hts gX8_jacket_X8_no rfl rfl rfl (by decide +kernel) ⟨Nat.le_of_ble_eq_true rfl, Nat.le_of_ble_eq_true rfl⟩) hK hN (hZ.kept hS) hP hD hS hA [0, 1] [] rfl rfl (by decide) (by decide) (by decide) (va_recv hK hP (ci := 8) (q0 := 0) rfl rfl) rfl hl.1 rfl (Nat.le_of_ble_eq_true rfl) dX8_jacket_12 ⟨Nat.le_of_ble_eq_true rfl, Nat.le_of_ble_eq_true rfl⟩ (fun r_11 u_12 H locs hr_11 hP hD hS => ?_)
      obtain rfl := hr_11
      exact W.iret (v := (-1)) hx hb hr (fun t ht hW => ⟨⟨(-1), (), rfl, Or.inr (Or.inl (⟨rfl, (by first | omega | decide), (by first | omega | decide)⟩)), zP_nil, zD_nil⟩, hS.F ht⟩) hS.2.2 dX8_jacket_15
  · refine lv_istore_n (lv' := [(2, .int (-3)), (0, .ref m0), (1, .int s_)]) hx hb dX8_jacket_5 rfl hl (by decide) rfl (fun ls hl => ?_)
    refine lv_iload_n hx hb dX8_jacket_6 rfl (lv_at hl 0 rfl) ?_
    refine lv_if_eq (tgt := 16) hx hb dX8_jacket_7 (by decide) (fun c_13 => ?_) (fun c_13 => ?_)
    · exact absurd c_13 (by decide)
    · refine lv_aload_n hx hb dX8_jacket_10 rfl (lv_at hl 1 rfl) ?_
      refine lv_iload_n hx hb dX8_jacket_11 rfl (lv_at hl 0 rfl) ?_
      skip
      refine zw_V (As := [.int (-3)]) (rest := []) (wr := []) ⟨hx, hb, hml, hown, hts⟩ (c_M_no_3 l D cI cJ cZ cP cS m0 mrf mki mpa mta mla msl mco mhe mso msi msh mce mca mwo mnu mte mwa mke mma mth mtr  H.size) (cwV 1 hts gX8_jacket_X8_no rfl rfl rfl (by decide +kernel) ⟨Nat.le_of_ble_eq_true rfl, Nat.le_of_ble_eq_true rfl⟩) hK hN (hZ.kept hS) hP hD hS hA [0, 1] [] rfl rfl (by decide) (by decide) (by decide) (va_recv hK hP (ci := 8) (q0 := 0) rfl rfl) rfl hl.1 rfl (Nat.le_of_ble_eq_true rfl) dX8_jacket_12 ⟨Nat.le_of_ble_eq_true rfl, Nat.le_of_ble_eq_true rfl⟩ (fun r_14 u_15 H locs hr_14 hP hD hS => ?_)
      obtain rfl := hr_14
      exact W.iret (v := (-3)) hx hb hr (fun t ht hW => ⟨⟨(-3), (), rfl, Or.inr (Or.inr (⟨rfl, (by first | omega | decide), (by first | omega | decide)⟩)), zP_nil, zD_nil⟩, hS.F ht⟩) hS.2.2 dX8_jacket_15
theorem hi_X8_fault_8 : ∀ w ∈ u_ws RX8 TX8 38, w ∈ wsX8_fault := by decide +kernel
set_option maxHeartbeats 4000000 in
set_option maxRecDepth 100000 in
theorem c_M_fault (l : Launch) (D : va_G) (cI cJ cZ cP cS : ClassId) (m0 mrf mki mpa mta mla msl mco mhe mso msi msh mce mca mwo mnu mte mwa mke mma mth mtr : Nat)   (sz : Nat) : Met l yX8_fault wsX8_fault ({ frames := 0, cells := 0, slots := 0, locals := 0 }) (va_Pc [.ref m0] (zW D (zKT cI cJ cZ cP cS) [(m0, .inr (8, (.int 0 :: .int 20 :: .int 0 :: .int 0 :: .int 0 :: .int 60 :: .int 0 :: .int 3 :: .int 1 :: .int (-1) :: .ref mrf :: .ref mki :: .ref mpa :: .ref mta :: .ref mla :: .ref msl :: .ref mco :: .ref mhe :: .ref mso :: .ref msi :: .ref msh :: .ref mce :: .ref mca :: .ref mwo :: .ref mnu :: .ref mte :: .int 0 :: .int 0 :: .int 0 :: .int 0 :: .int 0 :: .ref mwa :: .ref mke :: .ref mma :: .ref mth :: .ref mtr :: .int 0 :: .int 0 :: [])))] sz)) (va_Qi (fun (r : Int32) (_ : Unit) => r = (-1)) (zB D [(m0, .inr (8, (.int 0 :: .int 20 :: .int 0 :: .int 0 :: .int 0 :: .int 60 :: .int 0 :: .int 3 :: .int 1 :: .int (-1) :: .ref mrf :: .ref mki :: .ref mpa :: .ref mta :: .ref mla :: .ref msl :: .ref mco :: .ref mhe :: .ref mso :: .ref msi :: .ref msh :: .ref mce :: .ref mca :: .ref mwo :: .ref mnu :: .ref mte :: .int 0 :: .int 0 :: .int 0 :: .int 0 :: .int 0 :: .ref mwa :: .ref mke :: .ref mma :: .ref mth :: .ref mtr :: .int 0 :: .int 0 :: [])))] sz (fun (_ : Unit) => ([] : va_W))) (va_A [(m0, .inr (8, (.int 0 :: .int 20 :: .int 0 :: .int 0 :: .int 0 :: .int 60 :: .int 0 :: .int 3 :: .int 1 :: .int (-1) :: .ref mrf :: .ref mki :: .ref mpa :: .ref mta :: .ref mla :: .ref msl :: .ref mco :: .ref mhe :: .ref mso :: .ref msi :: .ref msh :: .ref mce :: .ref mca :: .ref mwo :: .ref mnu :: .ref mte :: .int 0 :: .int 0 :: .int 0 :: .int 0 :: .int 0 :: .ref mwa :: .ref mke :: .ref mma :: .ref mth :: .ref mtr :: .int 0 :: .int 0 :: [])))] sz)) 0 0 (va_A [(m0, .inr (8, (.int 0 :: .int 20 :: .int 0 :: .int 0 :: .int 0 :: .int 60 :: .int 0 :: .int 3 :: .int 1 :: .int (-1) :: .ref mrf :: .ref mki :: .ref mpa :: .ref mta :: .ref mla :: .ref msl :: .ref mco :: .ref mhe :: .ref mso :: .ref msi :: .ref msh :: .ref mce :: .ref mca :: .ref mwo :: .ref mnu :: .ref mte :: .int 0 :: .int 0 :: .int 0 :: .int 0 :: .int 0 :: .ref mwa :: .ref mke :: .ref mma :: .ref mth :: .ref mtr :: .int 0 :: .int 0 :: [])))] sz) := by
  refine Met.ofW (cc := cX8_fault) (maxL := 1) (ret := (some .int)) (by decide) rfl ?_
  intro p e s m args below meth c s₁ B hml hv
  obtain ⟨rfl, hsz, hP, hK, hD0, hN, hZ⟩ := hv
  have hx := B.exec
  have hb := B.bytes
  have hr := B.returns
  have hts := atoms_spec (ws := wsX8_fault) B.pre
  have hown : s.vm.findClass RX8 = some m.cls := findClass_of_methodNamed B.named
  have hlocks := B.notSynchronized
  subst hsz
  have hD := hD0.self (sz := s.heap.size)
  have hA : ∀ q : Nat, s.heap.size ≤ q → va_A [(m0, .inr (8, (.int 0 :: .int 20 :: .int 0 :: .int 0 :: .int 0 :: .int 60 :: .int 0 :: .int 3 :: .int 1 :: .int (-1) :: .ref mrf :: .ref mki :: .ref mpa :: .ref mta :: .ref mla :: .ref msl :: .ref mco :: .ref mhe :: .ref mso :: .ref msi :: .ref msh :: .ref mce :: .ref mca :: .ref mwo :: .ref mnu :: .ref mte :: .int 0 :: .int 0 :: .int 0 :: .int 0 :: .int 0 :: .ref mwa :: .ref mke :: .ref mma :: .ref mth :: .ref mtr :: .int 0 :: .int 0 :: [])))] s.heap.size q := fun q h => Or.inr h
  have hS : va_S (va_A [(m0, .inr (8, (.int 0 :: .int 20 :: .int 0 :: .int 0 :: .int 0 :: .int 60 :: .int 0 :: .int 3 :: .int 1 :: .int (-1) :: .ref mrf :: .ref mki :: .ref mpa :: .ref mta :: .ref mla :: .ref msl :: .ref mco :: .ref mhe :: .ref mso :: .ref msi :: .ref msh :: .ref mce :: .ref mca :: .ref mwo :: .ref mnu :: .ref mte :: .int 0 :: .int 0 :: .int 0 :: .int 0 :: .int 0 :: .ref mwa :: .ref mke :: .ref mma :: .ref mth :: .ref mtr :: .int 0 :: .int 0 :: [])))] s.heap.size) s.heap s.heap [] := va_S.rf
  replace hP : va_P D vwCl _ s.heap := hP
  have hl := lv_entry ([.ref m0]) (n := 1) (Nat.le_of_ble_eq_true rfl)
  rw [lg_entry_eq]
  generalize (lg_sl ([.ref m0]) ++ List.replicate (1 - (lg_sl ([.ref m0])).length) Slot.unset).toArray = ls at hl ⊢
  replace hl : lv_has ls 1 [(0, .ref m0)] := hl
  refine zw_start (fun H locs hH hL => ?_)
  replace hP : va_P D vwCl [(m0, .inr (8, (.int 0 :: .int 20 :: .int 0 :: .int 0 :: .int 0 :: .int 60 :: .int 0 :: .int 3 :: .int 1 :: .int (-1) :: .ref mrf :: .ref mki :: .ref mpa :: .ref mta :: .ref mla :: .ref msl :: .ref mco :: .ref mhe :: .ref mso :: .ref msi :: .ref msh :: .ref mce :: .ref mca :: .ref mwo :: .ref mnu :: .ref mte :: .int 0 :: .int 0 :: .int 0 :: .int 0 :: .int 0 :: .ref mwa :: .ref mke :: .ref mma :: .ref mth :: .ref mtr :: .int 0 :: .int 0 :: [])))] H := by rw [hH]; exact hP
  replace hS : va_S (va_A [(m0, .inr (8, (.int 0 :: .int 20 :: .int 0 :: .int 0 :: .int 0 :: .int 60 :: .int 0 :: .int 3 :: .int 1 :: .int (-1) :: .ref mrf :: .ref mki :: .ref mpa :: .ref mta :: .ref mla :: .ref msl :: .ref mco :: .ref mhe :: .ref mso :: .ref msi :: .ref msh :: .ref mce :: .ref mca :: .ref mwo :: .ref mnu :: .ref mte :: .int 0 :: .int 0 :: .int 0 :: .int 0 :: .int 0 :: .ref mwa :: .ref mke :: .ref mma :: .ref mth :: .ref mtr :: .int 0 :: .int 0 :: [])))] s.heap.size) s.heap H locs := by rw [hH, hL]; exact hS
  clear hH hL
  refine lv_aload_n hx hb dX8_fault_0 rfl (lv_at hl 0 rfl) ?_
  refine va_get (D := D) (ci := 8) (v := .int (-1)) (C := RX8) (T := TX8) (N := 38) hx hb hts hi_X8_fault_8 hown hK hP 0 rfl rfl 9 (by decide) (hts (.fieldLink RX8 22 "TheLiningsInItModel" "fault" "I") (List.mem_of_getElem? (i := 1) rfl)) (fun _ h9 => h9) rfl dX8_fault_1 ?_
  exact W.iret (v := (-1)) hx hb hr (fun t ht hW => ⟨⟨(-1), (), rfl, rfl, zP_nil, zD_nil⟩, hS.F ht⟩) hS.2.2 dX8_fault_4
set_option maxHeartbeats 4000000 in
set_option maxRecDepth 100000 in
theorem c_M_frees (l : Launch) (D : va_G) (cI cJ cZ cP cS : ClassId) (m0 mrf mki mpa mta mla msl mco mhe mso msi msh mce mca mwo mnu mte mwa mke mma mth mtr : Nat) (p_ d w : Int32)  (sz : Nat) : Met l yX8_frees wsX8_frees ({ frames := 1, cells := 0, slots := 0, locals := 21 }) (va_Pc [.ref m0, .int p_, .int d, .int w] (zW D (zKT cI cJ cZ cP cS) [(m0, .inr (8, (.int 0 :: .int 20 :: .int 0 :: .int 0 :: .int 0 :: .int 60 :: .int 0 :: .int 3 :: .int 1 :: .int (-1) :: .ref mrf :: .ref mki :: .ref mpa :: .ref mta :: .ref mla :: .ref msl :: .ref mco :: .ref mhe :: .ref mso :: .ref msi :: .ref msh :: .ref mce :: .ref mca :: .ref mwo :: .ref mnu :: .ref mte :: .int 0 :: .int 0 :: .int 0 :: .int 0 :: .int 0 :: .ref mwa :: .ref mke :: .ref mma :: .ref mth :: .ref mtr :: .int 0 :: .int 0 :: []))), (mrf, .inl (cI, 8, .inl (fun _ => 0)))] sz)) (va_Qi (fun (r : Int32) (_ : Unit) => (r = (-1) ∧ p_.toInt < 0) ∨ (r = (-1) ∧ 0 ≤ p_.toInt)) (zB D [(m0, .inr (8, (.int 0 :: .int 20 :: .int 0 :: .int 0 :: .int 0 :: .int 60 :: .int 0 :: .int 3 :: .int 1 :: .int (-1) :: .ref mrf :: .ref mki :: .ref mpa :: .ref mta :: .ref mla :: .ref msl :: .ref mco :: .ref mhe :: .ref mso :: .ref msi :: .ref msh :: .ref mce :: .ref mca :: .ref mwo :: .ref mnu :: .ref mte :: .int 0 :: .int 0 :: .int 0 :: .int 0 :: .int 0 :: .ref mwa :: .ref mke :: .ref mma :: .ref mth :: .ref mtr :: .int 0 :: .int 0 :: []))), (mrf, .inl (cI, 8, .inl (fun _ => 0)))] sz (fun (_ : Unit) => ([] : va_W))) (va_A [(m0, .inr (8, (.int 0 :: .int 20 :: .int 0 :: .int 0 :: .int 0 :: .int 60 :: .int 0 :: .int 3 :: .int 1 :: .int (-1) :: .ref mrf :: .ref mki :: .ref mpa :: .ref mta :: .ref mla :: .ref msl :: .ref mco :: .ref mhe :: .ref mso :: .ref msi :: .ref msh :: .ref mce :: .ref mca :: .ref mwo :: .ref mnu :: .ref mte :: .int 0 :: .int 0 :: .int 0 :: .int 0 :: .int 0 :: .ref mwa :: .ref mke :: .ref mma :: .ref mth :: .ref mtr :: .int 0 :: .int 0 :: []))), (mrf, .inl (cI, 8, .inl (fun _ => 0)))] sz)) 0 0 (va_A [(m0, .inr (8, (.int 0 :: .int 20 :: .int 0 :: .int 0 :: .int 0 :: .int 60 :: .int 0 :: .int 3 :: .int 1 :: .int (-1) :: .ref mrf :: .ref mki :: .ref mpa :: .ref mta :: .ref mla :: .ref msl :: .ref mco :: .ref mhe :: .ref mso :: .ref msi :: .ref msh :: .ref mce :: .ref mca :: .ref mwo :: .ref mnu :: .ref mte :: .int 0 :: .int 0 :: .int 0 :: .int 0 :: .int 0 :: .ref mwa :: .ref mke :: .ref mma :: .ref mth :: .ref mtr :: .int 0 :: .int 0 :: []))), (mrf, .inl (cI, 8, .inl (fun _ => 0)))] sz) := by
  refine Met.ofW (cc := cX8_frees) (maxL := 4) (ret := (some .int)) (by decide) rfl ?_
  intro p e s m args below meth c s₁ B hml hv
  obtain ⟨rfl, hsz, hP, hK, hD0, hN, hZ⟩ := hv
  have hx := B.exec
  have hb := B.bytes
  have hr := B.returns
  have hts := atoms_spec (ws := wsX8_frees) B.pre
  have hown : s.vm.findClass RX8 = some m.cls := findClass_of_methodNamed B.named
  have hlocks := B.notSynchronized
  subst hsz
  have hD := hD0.self (sz := s.heap.size)
  have hA : ∀ q : Nat, s.heap.size ≤ q → va_A [(m0, .inr (8, (.int 0 :: .int 20 :: .int 0 :: .int 0 :: .int 0 :: .int 60 :: .int 0 :: .int 3 :: .int 1 :: .int (-1) :: .ref mrf :: .ref mki :: .ref mpa :: .ref mta :: .ref mla :: .ref msl :: .ref mco :: .ref mhe :: .ref mso :: .ref msi :: .ref msh :: .ref mce :: .ref mca :: .ref mwo :: .ref mnu :: .ref mte :: .int 0 :: .int 0 :: .int 0 :: .int 0 :: .int 0 :: .ref mwa :: .ref mke :: .ref mma :: .ref mth :: .ref mtr :: .int 0 :: .int 0 :: []))), (mrf, .inl (cI, 8, .inl (fun _ => 0)))] s.heap.size q := fun q h => Or.inr h
  have hS : va_S (va_A [(m0, .inr (8, (.int 0 :: .int 20 :: .int 0 :: .int 0 :: .int 0 :: .int 60 :: .int 0 :: .int 3 :: .int 1 :: .int (-1) :: .ref mrf :: .ref mki :: .ref mpa :: .ref mta :: .ref mla :: .ref msl :: .ref mco :: .ref mhe :: .ref mso :: .ref msi :: .ref msh :: .ref mce :: .ref mca :: .ref mwo :: .ref mnu :: .ref mte :: .int 0 :: .int 0 :: .int 0 :: .int 0 :: .int 0 :: .ref mwa :: .ref mke :: .ref mma :: .ref mth :: .ref mtr :: .int 0 :: .int 0 :: []))), (mrf, .inl (cI, 8, .inl (fun _ => 0)))] s.heap.size) s.heap s.heap [] := va_S.rf
  replace hP : va_P D vwCl _ s.heap := hP
  have hl := lv_entry ([.ref m0, .int p_, .int d, .int w]) (n := 4) (Nat.le_of_ble_eq_true rfl)
  rw [lg_entry_eq]
  generalize (lg_sl ([.ref m0, .int p_, .int d, .int w]) ++ List.replicate (4 - (lg_sl ([.ref m0, .int p_, .int d, .int w])).length) Slot.unset).toArray = ls at hl ⊢
  replace hl : lv_has ls 4 [(0, .ref m0), (1, .int p_), (2, .int d), (3, .int w)] := hl
  refine zw_start (fun H locs hH hL => ?_)
  replace hP : va_P D vwCl [(m0, .inr (8, (.int 0 :: .int 20 :: .int 0 :: .int 0 :: .int 0 :: .int 60 :: .int 0 :: .int 3 :: .int 1 :: .int (-1) :: .ref mrf :: .ref mki :: .ref mpa :: .ref mta :: .ref mla :: .ref msl :: .ref mco :: .ref mhe :: .ref mso :: .ref msi :: .ref msh :: .ref mce :: .ref mca :: .ref mwo :: .ref mnu :: .ref mte :: .int 0 :: .int 0 :: .int 0 :: .int 0 :: .int 0 :: .ref mwa :: .ref mke :: .ref mma :: .ref mth :: .ref mtr :: .int 0 :: .int 0 :: []))), (mrf, .inl (cI, 8, .inl (fun _ => 0)))] H := by rw [hH]; exact hP
  replace hS : va_S (va_A [(m0, .inr (8, (.int 0 :: .int 20 :: .int 0 :: .int 0 :: .int 0 :: .int 60 :: .int 0 :: .int 3 :: .int 1 :: .int (-1) :: .ref mrf :: .ref mki :: .ref mpa :: .ref mta :: .ref mla :: .ref msl :: .ref mco :: .ref mhe :: .ref mso :: .ref msi :: .ref msh :: .ref mce :: .ref mca :: .ref mwo :: .ref mnu :: .ref mte :: .int 0 :: .int 0 :: .int 0 :: .int 0 :: .int 0 :: .ref mwa :: .ref mke :: .ref mma :: .ref mth :: .ref mtr :: .int 0 :: .int 0 :: []))), (mrf, .inl (cI, 8, .inl (fun _ => 0)))] s.heap.size) s.heap H locs := by rw [hH, hL]; exact hS
  clear hH hL
  refine lv_aload_n hx hb dX8_frees_0 rfl (lv_at hl 0 rfl) ?_
  refine lv_iload_n hx hb dX8_frees_1 rfl (lv_at hl 1 rfl) ?_
  refine zc_V (As := [.int p_]) (rest := []) ⟨hx, hb, hml, hown, hts⟩ (c_M_isPull l D cI cJ cZ cP cS m0 mrf mki mpa mta mla msl mco mhe mso msi msh mce mca mwo mnu mte mwa mke mma mth mtr (p_) ) (cwV 1 hts gX8_frees_X8_isPull rfl rfl rfl (by decide +kernel) ⟨Nat.le_of_ble_eq_true rfl, Nat.le_of_ble_eq_true rfl⟩) hK hN (hZ.kept hS) hP [0] rfl (va_recv hK hP (ci := 8) (q0 := 0) rfl rfl) rfl hl.1 rfl (Nat.le_of_ble_eq_true rfl) dX8_frees_2 ⟨Nat.le_of_ble_eq_true rfl, Nat.le_of_ble_eq_true rfl⟩ (fun r_1 hr_1 => ?_)
  rcases hr_1 with ⟨rfl, g_2⟩ | ⟨rfl, g_3⟩
  · refine lv_if_ne (tgt := 14) hx hb dX8_frees_5 (by decide) (fun c_4 => ?_) (fun c_4 => ?_)
    · exact absurd c_4 (by decide)
    · refine lv_aload_n hx hb dX8_frees_8 rfl (lv_at hl 0 rfl) ?_
      refine lv_iconst (v := (-1)) hx hb dX8_frees_9 (by decide) ?_
      skip
      refine zw_V (As := [.int (-1)]) (rest := []) (wr := []) ⟨hx, hb, hml, hown, hts⟩ (c_M_no_1 l D cI cJ cZ cP cS m0 mrf mki mpa mta mla msl mco mhe mso msi msh mce mca mwo mnu mte mwa mke mma mth mtr  H.size) (cwV 1 hts gX8_frees_X8_no rfl rfl rfl (by decide +kernel) ⟨Nat.le_of_ble_eq_true rfl, Nat.le_of_ble_eq_true rfl⟩) hK hN (hZ.kept hS) hP hD hS hA [0, 1] [] rfl rfl (by decide) (by decide) (by decide) (va_recv hK hP (ci := 8) (q0 := 0) rfl rfl) rfl hl.1 rfl (Nat.le_of_ble_eq_true rfl) dX8_frees_10 ⟨Nat.le_of_ble_eq_true rfl, Nat.le_of_ble_eq_true rfl⟩ (fun r_5 u_6 H locs hr_5 hP hD hS => ?_)
      obtain rfl := hr_5
      exact W.iret (v := (-1)) hx hb hr (fun t ht hW => ⟨⟨(-1), (), rfl, Or.inl (⟨rfl, (by first | omega | decide)⟩), zP_nil, zD_nil⟩, hS.F ht⟩) hS.2.2 dX8_frees_13
  · refine lv_if_ne (tgt := 14) hx hb dX8_frees_5 (by decide) (fun c_7 => ?_) (fun c_7 => ?_)
    · exact absurd c_7 (by decide)
    · refine lv_aload_n hx hb dX8_frees_8 rfl (lv_at hl 0 rfl) ?_
      refine lv_iconst (v := (-1)) hx hb dX8_frees_9 (by decide) ?_
      skip
      refine zw_V (As := [.int (-1)]) (rest := []) (wr := []) ⟨hx, hb, hml, hown, hts⟩ (c_M_no_1 l D cI cJ cZ cP cS m0 mrf mki mpa mta mla msl mco mhe mso msi msh mce mca mwo mnu mte mwa mke mma mth mtr  H.size) (cwV 1 hts gX8_frees_X8_no rfl rfl rfl (by decide +kernel) ⟨Nat.le_of_ble_eq_true rfl, Nat.le_of_ble_eq_true rfl⟩) hK hN (hZ.kept hS) hP hD hS hA [0, 1] [] rfl rfl (by decide) (by decide) (by decide) (va_recv hK hP (ci := 8) (q0 := 0) rfl rfl) rfl hl.1 rfl (Nat.le_of_ble_eq_true rfl) dX8_frees_10 ⟨Nat.le_of_ble_eq_true rfl, Nat.le_of_ble_eq_true rfl⟩ (fun r_8 u_9 H locs hr_8 hP hD hS => ?_)
      obtain rfl := hr_8
      exact W.iret (v := (-1)) hx hb hr (fun t ht hW => ⟨⟨(-1), (), rfl, Or.inr (⟨rfl, (by first | omega | decide)⟩), zP_nil, zD_nil⟩, hS.F ht⟩) hS.2.2 dX8_frees_13
