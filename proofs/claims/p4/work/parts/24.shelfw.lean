set_option maxHeartbeats 4000000 in
set_option maxRecDepth 100000 in
theorem c_fillJ (l : Launch) (D : va_G) (cI cJ cZ cP cS : ClassId) (po : zPool) (e0 : Nat) (v : Int64) (fe : Nat → Int64)  (hpz : Nat) : Met l yJ7_fill_d0a16 wsJ7_fill_d0a16 ({ frames := 0, cells := 0, slots := 0, locals := 0 }) (va_Pc [.ref e0, .long v] (zW D (zKT cI cJ cZ cP cS) po [(e0, .inl (cJ, 160, .inr (.inl fe)))] hpz)) (va_Qv (fun (fe2 : (Nat → Int64)) => True) (zB D [(e0, .inl (cJ, 160, .inr (.inl fe)))] hpz (fun (fe2 : Nat → Int64) => [(e0, .inl (cJ, 160, .inr (.inl fe2)))])) (va_A [(e0, .inl (cJ, 160, .inr (.inl fe)))] hpz)) 0 0 (va_A [(e0, .inl (cJ, 160, .inr (.inl fe)))] hpz) := by
  refine Met.ofW (cc := cJ7_fill_d0a16) (maxL := 5) (ret := none) (by decide) rfl ?_
  intro p e s m args below meth c s₁ B hml hv
  obtain ⟨rfl, hsz, hP, hK, hD0, hN, hZ⟩ := hv
  have hx := B.exec
  have hb := B.bytes
  have hr := B.returns
  have hts := atoms_spec (ws := wsJ7_fill_d0a16) B.pre
  have hown : s.vm.findClass RJ7 = some m.cls := findClass_of_methodNamed B.named
  have hlocks := B.notSynchronized
  subst hsz
  have hD := hD0.self (sz := s.heap.size)
  have hA : ∀ q : Nat, s.heap.size ≤ q → va_A [(e0, .inl (cJ, 160, .inr (.inl fe)))] s.heap.size q := fun q h => Or.inr h
  have hS : va_S (va_A [(e0, .inl (cJ, 160, .inr (.inl fe)))] s.heap.size) s.heap s.heap [] := va_S.rf
  replace hP : va_P D vwCl _ s.heap := hP
  have hl := lv_entry ([.ref e0, .long v]) (n := 5) (Nat.le_of_ble_eq_true rfl)
  rw [lg_entry_eq]
  generalize (lg_sl ([.ref e0, .long v]) ++ List.replicate (5 - (lg_sl ([.ref e0, .long v])).length) Slot.unset).toArray = ls at hl ⊢
  replace hl : lv_has ls 5 [(0, .ref e0), (1, .long v)] := hl
  refine zw_start (fun H locs hH hL => ?_)
  replace hP : va_P D vwCl [(e0, .inl (cJ, 160, .inr (.inl fe)))] H := by rw [hH]; exact hP
  replace hS : va_S (va_A [(e0, .inl (cJ, 160, .inr (.inl fe)))] s.heap.size) s.heap H locs := by rw [hH, hL]; exact hS
  clear hH hL
  refine lv_iconst (v := 0) hx hb dJ7_fill_d0a16_0 (by decide) ?_
  refine lv_istore_n (lv' := [(3, .int 0), (0, .ref e0), (1, .long v)]) hx hb dJ7_fill_d0a16_1 rfl hl (by decide) rfl (fun ls hl => ?_)
  refine lv_aload_n hx hb dJ7_fill_d0a16_2 rfl (lv_at hl 1 rfl) ?_
  refine va_alen (v := 160) hx hb hK hP 0 1 rfl rfl rfl dJ7_fill_d0a16_3 ?_
  refine lv_istore (lv' := [(4, .int 160), (3, .int 0), (0, .ref e0), (1, .long v)]) hx hb dJ7_fill_d0a16_4 hl (by decide) rfl (fun ls hl => ?_)
  obtain ⟨i_6, hi_6⟩ : ∃ i : Int32, i = 0 := ⟨_, rfl⟩
  replace hl : lv_has ls 5 [(4, .int 160), (3, .int i_6), (0, .ref e0), (1, .long v)] := by rw [hi_6]; exact lv_sub hl [0, 1, 2, 3] rfl
  have h1i_6 : i_6.toInt = 0 := by rw [hi_6]; decide
  obtain ⟨nfu, hni_6⟩ : ∃ nq9 : Nat, 160 ≤ i_6.toInt + (nq9 : Int) := ⟨((160 : Int) - 0).toNat, by omega⟩
  have hloi_6 : 0 ≤ i_6.toInt := by omega
  obtain ⟨g_1, hg_1⟩ : ∃ g : Nat → Int64, g = fe := ⟨_, rfl⟩
  replace hP : va_P D vwCl [(e0, .inl (cJ, 160, .inr (.inl g_1)))] H := by rw [hg_1]; exact hP
  replace hD : va_D (va_A [(e0, .inl (cJ, 160, .inr (.inl fe)))] s.heap.size) [(e0, .inl (cJ, 160, .inr (.inl g_1)))] := by rw [hg_1]; exact hD
  clear h1i_6 hi_6 hg_1
  skip
  revert hni_6
  revert hloi_6
  revert hl
  revert hS
  revert hD
  revert hP
  revert ls
  revert locs
  revert H
  revert g_1
  revert i_6
  induction nfu with
  | zero =>
    intro i_6 g_1 H locs ls hP hD hS hl hloi_6 hni_6
    have hzi_6 : 160 ≤ i_6.toInt := by omega
    refine lv_iload_n hx hb dJ7_fill_d0a16_6 rfl (lv_at hl 1 rfl) ?_
    refine lv_iload hx hb dJ7_fill_d0a16_7 (lv_at hl 0 rfl) ?_
    refine lv_icmp_ge (tgt := 22) hx hb dJ7_fill_d0a16_9 (by decide) (fun c_2 => ?_) (fun c_2 => ?_)
    · have fc_2 : 160 ≤ i_6.toInt := zf_le c_2 (by decide) rfl
      exact W.vret hx hb hr (fun t ht hW => ⟨⟨g_1, rfl, trivial, by rw [ht]; exact hP.sub (ws' := [(e0, .inl (cJ, 160, .inr (.inl g_1)))]) [0] rfl, hD.sub (ws' := [(e0, .inl (cJ, 160, .inr (.inl g_1)))]) [0] (by decide) rfl⟩, hS.F ht⟩) hS.2.2 dJ7_fill_d0a16_22
    · exfalso; have fc_2 : i_6.toInt < 160 := zf_nle c_2 (by decide) rfl; omega
  | succ nfu ih =>
    intro i_6 g_1 H locs ls hP hD hS hl hloi_6 hni_6
    refine lv_iload_n hx hb dJ7_fill_d0a16_6 rfl (lv_at hl 1 rfl) ?_
    refine lv_iload hx hb dJ7_fill_d0a16_7 (lv_at hl 0 rfl) ?_
    refine lv_icmp_ge (tgt := 22) hx hb dJ7_fill_d0a16_9 (by decide) (fun c_3 => ?_) (fun c_3 => ?_)
    · have fc_3 : 160 ≤ i_6.toInt := zf_le c_3 (by decide) rfl
      exact W.vret hx hb hr (fun t ht hW => ⟨⟨g_1, rfl, trivial, by rw [ht]; exact hP.sub (ws' := [(e0, .inl (cJ, 160, .inr (.inl g_1)))]) [0] rfl, hD.sub (ws' := [(e0, .inl (cJ, 160, .inr (.inl g_1)))]) [0] (by decide) rfl⟩, hS.F ht⟩) hS.2.2 dJ7_fill_d0a16_22
    · have fc_3 : i_6.toInt < 160 := zf_nle c_3 (by decide) rfl
      refine lv_aload_n hx hb dJ7_fill_d0a16_12 rfl (lv_at hl 2 rfl) ?_
      refine lv_iload_n hx hb dJ7_fill_d0a16_13 rfl (lv_at hl 1 rfl) ?_
      refine lv_lload_n hx hb dJ7_fill_d0a16_14 rfl (lv_at hl 3 rfl) ?_
      refine va_last hx hb hK hP hD hS 0 1 rfl rfl (zf_in (by omega) (by omega)) dJ7_fill_d0a16_15 (fun H locs hP hD hS => ?_)
      obtain ⟨g_4, hg_4⟩ : ∃ g : Nat → Int64, g = vp_updL g_1 i_6.toNatClampNeg v := ⟨_, rfl⟩
      rw [← hg_4] at hP hD
      clear hg_4
      replace hP : va_P D vwCl [(e0, .inl (cJ, 160, .inr (.inl g_4)))] H := hP
      replace hD : va_D _ [(e0, .inl (cJ, 160, .inr (.inl g_4)))] := hD
      obtain ⟨x_5, ex_5⟩ : ∃ y : Int32, y = i_6 + 1 := ⟨_, rfl⟩
      have qx_5 : x_5.toInt = i_6.toInt + 1 := by rw [ex_5]; exact zf_add rfl (by decide) (by omega) (by omega)
      refine lv_iinc (v := x_5) (lv' := [(3, .int x_5), (4, .int 160), (0, .ref e0), (1, .long v)]) hx hb dJ7_fill_d0a16_16 hl (k := 1) rfl ex_5.symm (by decide) rfl (fun ls hl => ?_)
      refine lv_goto (tgt := 6) hx hb dJ7_fill_d0a16_19 (by decide) ?_
      exact ih x_5 (g_4) _ _ _ (hP.sub [0] rfl) (hD.sub [0] (by decide) rfl) hS (lv_sub hl [1, 0, 2, 3] rfl) (by omega) (by omega)
theorem hi_X4_holdRow_4 : ∀ w ∈ u_ws RX4 TX4 3, w ∈ wsX4_holdRow := fun w h => (goodIn_r (u_ws RX4 TX4 3) [8, 9, 10] rfl (by decide +kernel) w h).1
set_option maxHeartbeats 4000000 in
set_option maxRecDepth 100000 in
theorem c_Sh_holdRow (l : Launch) (D : va_G) (cI cJ cZ cP cS : ClassId) (po : zPool) (h0 e0 : Nat) (he si : Int32) (fe : Nat → Int64) (o n : Int32) (hy0 : (-1) ≤ he.toInt) (hy1 : he.toInt ≤ 103) (hy2 : 0 ≤ si.toInt) (hy3 : si.toInt ≤ 160) (hy4 : 0 ≤ o.toInt) (hy5 : o.toInt ≤ 3) (hy6 : 0 ≤ n.toInt) (hy7 : n.toInt ≤ 160) (hpz : Nat) : Met l yX4_holdRow wsX4_holdRow ({ frames := 1, cells := 0, slots := 0, locals := 24 }) (va_Pc [.ref h0, .int o, .int n] (zW D (zKT cI cJ cZ cP cS) po [(h0, .inr (4, [.ref e0, .int he, .int si])), (e0, .inl (cJ, 160, .inr (.inl fe)))] hpz)) (va_Qv (fun (u : (Int32) × (Int32) × (Nat → Int64)) => ((-1) ≤ u.1.toInt ∧ u.1.toInt ≤ 103) ∧ (0 ≤ u.2.1.toInt ∧ u.2.1.toInt ≤ 160) ∧ (True)) (zB D [(h0, .inr (4, [.ref e0, .int he, .int si])), (e0, .inl (cJ, 160, .inr (.inl fe)))] hpz (fun (u : (Int32) × (Int32) × (Nat → Int64)) => [(h0, .inr (4, [.ref e0, .int u.1, .int u.2.1])), (e0, .inl (cJ, 160, .inr (.inl u.2.2)))])) (va_A [(h0, .inr (4, [.ref e0, .int he, .int si])), (e0, .inl (cJ, 160, .inr (.inl fe)))] hpz)) 0 0 (va_A [(h0, .inr (4, [.ref e0, .int he, .int si])), (e0, .inl (cJ, 160, .inr (.inl fe)))] hpz) := by
  refine Met.ofW (cc := cX4_holdRow) (maxL := 3) (ret := none) (by decide) rfl ?_
  intro p e s m args below meth c s₁ B hml hv
  obtain ⟨rfl, hsz, hP, hK, hD0, hN, hZ⟩ := hv
  have hx := B.exec
  have hb := B.bytes
  have hr := B.returns
  have hts := atoms_spec (ws := wsX4_holdRow) B.pre
  have hown : s.vm.findClass RX4 = some m.cls := findClass_of_methodNamed B.named
  have hlocks := B.notSynchronized
  subst hsz
  have hD := hD0.self (sz := s.heap.size)
  have hA : ∀ q : Nat, s.heap.size ≤ q → va_A [(h0, .inr (4, [.ref e0, .int he, .int si])), (e0, .inl (cJ, 160, .inr (.inl fe)))] s.heap.size q := fun q h => Or.inr h
  have hS : va_S (va_A [(h0, .inr (4, [.ref e0, .int he, .int si])), (e0, .inl (cJ, 160, .inr (.inl fe)))] s.heap.size) s.heap s.heap [] := va_S.rf
  replace hP : va_P D vwCl _ s.heap := hP
  have hl := lv_entry ([.ref h0, .int o, .int n]) (n := 3) (Nat.le_of_ble_eq_true rfl)
  rw [lg_entry_eq]
  generalize (lg_sl ([.ref h0, .int o, .int n]) ++ List.replicate (3 - (lg_sl ([.ref h0, .int o, .int n])).length) Slot.unset).toArray = ls at hl ⊢
  replace hl : lv_has ls 3 [(0, .ref h0), (1, .int o), (2, .int n)] := hl
  refine zw_start (fun H locs hH hL => ?_)
  replace hP : va_P D vwCl [(h0, .inr (4, [.ref e0, .int he, .int si])), (e0, .inl (cJ, 160, .inr (.inl fe)))] H := by rw [hH]; exact hP
  replace hS : va_S (va_A [(h0, .inr (4, [.ref e0, .int he, .int si])), (e0, .inl (cJ, 160, .inr (.inl fe)))] s.heap.size) s.heap H locs := by rw [hH, hL]; exact hS
  clear hH hL
  refine lv_aload_n hx hb dX4_holdRow_0 rfl (lv_at hl 0 rfl) ?_
  refine lv_bipush (v := 100) hx hb dX4_holdRow_1 (by decide) ?_
  refine lv_iload_n hx hb dX4_holdRow_3 rfl (lv_at hl 1 rfl) ?_
  refine lv_iadd hx hb dX4_holdRow_4 ?_
  refine lv_topi (fun x_1 ex_1 => ?_)
  have qx_1 : x_1.toInt = 100 + o.toInt := by rw [ex_1]; exact zf_add (by decide) rfl (by omega) (by omega)
  refine va_put (D := D) (ci := 4) (v := .int x_1) (ty := .int) (C := RX4) (T := TX4) (N := 3) hx hb hts hi_X4_holdRow_4 tyX4 tyX4_ok nmX4 hown hK hP hD hS 0 rfl rfl 1 (by decide) (hts (.fieldLink RX4 15 "TheLiningsInIt$Shelf" "held" "I") (List.mem_of_getElem? (i := 1) rfl)) (fun _ h9 => h9) rfl (by decide +kernel) rfl rfl (Nat.le_of_ble_eq_true rfl) dX4_holdRow_5 (fun H locs hP hD hS => ?_)
  replace hP : va_P D vwCl [(h0, .inr (4, [.ref e0, .int x_1, .int si])), (e0, .inl (cJ, 160, .inr (.inl fe)))] H := hP
  replace hD : va_D _ [(h0, .inr (4, [.ref e0, .int x_1, .int si])), (e0, .inl (cJ, 160, .inr (.inl fe)))] := hD
  refine lv_aload_n hx hb dX4_holdRow_8 rfl (lv_at hl 0 rfl) ?_
  refine lv_iload_n hx hb dX4_holdRow_9 rfl (lv_at hl 2 rfl) ?_
  refine va_put (D := D) (ci := 4) (v := .int n) (ty := .int) (C := RX4) (T := TX4) (N := 3) hx hb hts hi_X4_holdRow_4 tyX4 tyX4_ok nmX4 hown hK hP hD hS 0 rfl rfl 2 (by decide) (hts (.fieldLink RX4 19 "TheLiningsInIt$Shelf" "size" "I") (List.mem_of_getElem? (i := 2) rfl)) (fun _ h9 => h9) rfl (by decide +kernel) rfl rfl (Nat.le_of_ble_eq_true rfl) dX4_holdRow_10 (fun H locs hP hD hS => ?_)
  replace hP : va_P D vwCl [(h0, .inr (4, [.ref e0, .int x_1, .int n])), (e0, .inl (cJ, 160, .inr (.inl fe)))] H := hP
  replace hD : va_D _ [(h0, .inr (4, [.ref e0, .int x_1, .int n])), (e0, .inl (cJ, 160, .inr (.inl fe)))] := hD
  refine lv_aload_n hx hb dX4_holdRow_13 rfl (lv_at hl 0 rfl) ?_
  refine va_get (D := D) (ci := 4) (v := .ref e0) (C := RX4) (T := TX4) (N := 3) hx hb hts hi_X4_holdRow_4 hown hK hP 0 rfl rfl 0 (by decide) (hts (.fieldLink RX4 9 "TheLiningsInIt$Shelf" "elements" "[J") (List.mem_of_getElem? (i := 3) rfl)) (fun _ h9 => h9) rfl dX4_holdRow_14 ?_
  refine lv_lconst (v := 0) hx hb dX4_holdRow_17 (by decide) ?_
  skip
  refine zw_Sv (As := [.ref e0, .long 0]) (rest := []) (wr := [(h0, .inr (4, [.ref e0, .int x_1, .int n]))]) ⟨hx, hb, hml, hown, hts⟩ (c_fillJ l D cI cJ cZ cP cS po e0 (0) fe  H.size) (va_cwS 2 hts gX4_holdRow_J7_fill_d0a16 rfl rfl rfl (by decide +kernel) ⟨Nat.le_of_ble_eq_true rfl, Nat.le_of_ble_eq_true rfl⟩) hK hN (hZ.kept hS) hP hD hS hA [1] [0] rfl rfl (by decide) (by decide) (by decide) rfl hl.1 rfl (Nat.le_of_ble_eq_true rfl) dX4_holdRow_18 ⟨Nat.le_of_ble_eq_true rfl, Nat.le_of_ble_eq_true rfl⟩ (fun u_3 H locs hr_2 hP hD hS => ?_)
  obtain ⟨q_4, rfl⟩ : ∃ z, z = u_3 := ⟨_, rfl⟩
  replace hP : va_P D vwCl [(h0, .inr (4, [.ref e0, .int x_1, .int n])), (e0, .inl (cJ, 160, .inr (.inl q_4)))] H := hP
  replace hD : va_D _ [(h0, .inr (4, [.ref e0, .int x_1, .int n])), (e0, .inl (cJ, 160, .inr (.inl q_4)))] := hD
  exact W.vret hx hb hr (fun t ht hW => ⟨⟨(x_1, n, q_4), rfl, ⟨(show (-1) ≤ x_1.toInt ∧ x_1.toInt ≤ 103 from ⟨by omega, by omega⟩), (show 0 ≤ n.toInt ∧ n.toInt ≤ 160 from ⟨hy6, hy7⟩), trivial⟩, by rw [ht]; exact hP.sub (ws' := [(h0, .inr (4, [.ref e0, .int x_1, .int n])), (e0, .inl (cJ, 160, .inr (.inl q_4)))]) [0, 1] rfl, hD.sub (ws' := [(h0, .inr (4, [.ref e0, .int x_1, .int n])), (e0, .inl (cJ, 160, .inr (.inl q_4)))]) [0, 1] (by decide) rfl⟩, hS.F ht⟩) hS.2.2 dX4_holdRow_21
theorem hi_X4_forgetFrom_4 : ∀ w ∈ u_ws RX4 TX4 3, w ∈ wsX4_forgetFrom := fun w h => (goodIn_r (u_ws RX4 TX4 3) [2, 3, 4] rfl (by decide +kernel) w h).1
set_option maxHeartbeats 4000000 in
set_option maxRecDepth 100000 in
theorem c_Sh_forgetFrom (l : Launch) (D : va_G) (cI cJ cZ cP cS : ClassId) (po : zPool) (h0 e0 : Nat) (he si : Int32) (pc : Int32) (hy0 : (-1) ≤ he.toInt) (hy1 : he.toInt ≤ 103) (hy2 : 0 ≤ si.toInt) (hy3 : si.toInt ≤ 160) (hpz : Nat) : Met l yX4_forgetFrom wsX4_forgetFrom ({ frames := 0, cells := 0, slots := 0, locals := 0 }) (va_Pc [.ref h0, .int pc] (zW D (zKT cI cJ cZ cP cS) po [(h0, .inr (4, [.ref e0, .int he, .int si]))] hpz)) (va_Qv (fun (he2 : (Int32)) => ((-1) ≤ he2.toInt ∧ he2.toInt ≤ 103) ∧ (True)) (zB D [(h0, .inr (4, [.ref e0, .int he, .int si]))] hpz (fun (he2 : Int32) => [(h0, .inr (4, [.ref e0, .int he2, .int si]))])) (va_A [(h0, .inr (4, [.ref e0, .int he, .int si]))] hpz)) 0 0 (va_A [(h0, .inr (4, [.ref e0, .int he, .int si]))] hpz) := by
  refine Met.ofW (cc := cX4_forgetFrom) (maxL := 2) (ret := none) (by decide) rfl ?_
  intro p e s m args below meth c s₁ B hml hv
  obtain ⟨rfl, hsz, hP, hK, hD0, hN, hZ⟩ := hv
  have hx := B.exec
  have hb := B.bytes
  have hr := B.returns
  have hts := atoms_spec (ws := wsX4_forgetFrom) B.pre
  have hown : s.vm.findClass RX4 = some m.cls := findClass_of_methodNamed B.named
  have hlocks := B.notSynchronized
  subst hsz
  have hD := hD0.self (sz := s.heap.size)
  have hA : ∀ q : Nat, s.heap.size ≤ q → va_A [(h0, .inr (4, [.ref e0, .int he, .int si]))] s.heap.size q := fun q h => Or.inr h
  have hS : va_S (va_A [(h0, .inr (4, [.ref e0, .int he, .int si]))] s.heap.size) s.heap s.heap [] := va_S.rf
  replace hP : va_P D vwCl _ s.heap := hP
  have hl := lv_entry ([.ref h0, .int pc]) (n := 2) (Nat.le_of_ble_eq_true rfl)
  rw [lg_entry_eq]
  generalize (lg_sl ([.ref h0, .int pc]) ++ List.replicate (2 - (lg_sl ([.ref h0, .int pc])).length) Slot.unset).toArray = ls at hl ⊢
  replace hl : lv_has ls 2 [(0, .ref h0), (1, .int pc)] := hl
  refine zw_start (fun H locs hH hL => ?_)
  replace hP : va_P D vwCl [(h0, .inr (4, [.ref e0, .int he, .int si]))] H := by rw [hH]; exact hP
  replace hS : va_S (va_A [(h0, .inr (4, [.ref e0, .int he, .int si]))] s.heap.size) s.heap H locs := by rw [hH, hL]; exact hS
  clear hH hL
  refine lv_aload_n hx hb dX4_forgetFrom_0 rfl (lv_at hl 0 rfl) ?_
  refine va_get (D := D) (ci := 4) (v := .int he) (C := RX4) (T := TX4) (N := 3) hx hb hts hi_X4_forgetFrom_4 hown hK hP 0 rfl rfl 1 (by decide) (hts (.fieldLink RX4 15 "TheLiningsInIt$Shelf" "held" "I") (List.mem_of_getElem? (i := 1) rfl)) (fun _ h9 => h9) rfl dX4_forgetFrom_1 ?_
  refine lv_iload_n hx hb dX4_forgetFrom_4 rfl (lv_at hl 1 rfl) ?_
  refine lv_icmp_lt (tgt := 22) hx hb dX4_forgetFrom_5 (by decide) (fun c_1 => ?_) (fun c_1 => ?_)
  · have fc_1 : he.toInt < pc.toInt := zf_lt c_1 rfl rfl
    exact W.vret hx hb hr (fun t ht hW => ⟨⟨he, rfl, ⟨(show (-1) ≤ he.toInt ∧ he.toInt ≤ 103 from ⟨hy0, hy1⟩), trivial⟩, by rw [ht]; exact hP.sub (ws' := [(h0, .inr (4, [.ref e0, .int he, .int si]))]) [0] rfl, hD.sub (ws' := [(h0, .inr (4, [.ref e0, .int he, .int si]))]) [0] (by decide) rfl⟩, hS.F ht⟩) hS.2.2 dX4_forgetFrom_22
  · have fc_1 : pc.toInt ≤ he.toInt := zf_nlt c_1 rfl rfl
    refine lv_aload_n hx hb dX4_forgetFrom_8 rfl (lv_at hl 0 rfl) ?_
    refine va_get (D := D) (ci := 4) (v := .int he) (C := RX4) (T := TX4) (N := 3) hx hb hts hi_X4_forgetFrom_4 hown hK hP 0 rfl rfl 1 (by decide) (hts (.fieldLink RX4 15 "TheLiningsInIt$Shelf" "held" "I") (List.mem_of_getElem? (i := 1) rfl)) (fun _ h9 => h9) rfl dX4_forgetFrom_9 ?_
    refine lv_bipush (v := 100) hx hb dX4_forgetFrom_12 (by decide) ?_
    refine lv_icmp_ge (tgt := 22) hx hb dX4_forgetFrom_14 (by decide) (fun c_2 => ?_) (fun c_2 => ?_)
    · have fc_2 : 100 ≤ he.toInt := zf_le c_2 (by decide) rfl
      exact W.vret hx hb hr (fun t ht hW => ⟨⟨he, rfl, ⟨(show (-1) ≤ he.toInt ∧ he.toInt ≤ 103 from ⟨hy0, hy1⟩), trivial⟩, by rw [ht]; exact hP.sub (ws' := [(h0, .inr (4, [.ref e0, .int he, .int si]))]) [0] rfl, hD.sub (ws' := [(h0, .inr (4, [.ref e0, .int he, .int si]))]) [0] (by decide) rfl⟩, hS.F ht⟩) hS.2.2 dX4_forgetFrom_22
    · have fc_2 : he.toInt < 100 := zf_nle c_2 (by decide) rfl
      refine lv_aload_n hx hb dX4_forgetFrom_17 rfl (lv_at hl 0 rfl) ?_
      refine lv_iconst (v := (-1)) hx hb dX4_forgetFrom_18 (by decide) ?_
      refine va_put (D := D) (ci := 4) (v := .int (-1)) (ty := .int) (C := RX4) (T := TX4) (N := 3) hx hb hts hi_X4_forgetFrom_4 tyX4 tyX4_ok nmX4 hown hK hP hD hS 0 rfl rfl 1 (by decide) (hts (.fieldLink RX4 15 "TheLiningsInIt$Shelf" "held" "I") (List.mem_of_getElem? (i := 1) rfl)) (fun _ h9 => h9) rfl (by decide +kernel) rfl rfl (Nat.le_of_ble_eq_true rfl) dX4_forgetFrom_19 (fun H locs hP hD hS => ?_)
      replace hP : va_P D vwCl [(h0, .inr (4, [.ref e0, .int (-1), .int si]))] H := hP
      replace hD : va_D _ [(h0, .inr (4, [.ref e0, .int (-1), .int si]))] := hD
      exact W.vret hx hb hr (fun t ht hW => ⟨⟨(-1), rfl, ⟨(show (-1) ≤ ((-1) : Int32).toInt ∧ ((-1) : Int32).toInt ≤ 103 from by decide), trivial⟩, by rw [ht]; exact hP.sub (ws' := [(h0, .inr (4, [.ref e0, .int (-1), .int si]))]) [0] rfl, hD.sub (ws' := [(h0, .inr (4, [.ref e0, .int (-1), .int si]))]) [0] (by decide) rfl⟩, hS.F ht⟩) hS.2.2 dX4_forgetFrom_22
theorem hi_X4_put_4 : ∀ w ∈ u_ws RX4 TX4 3, w ∈ wsX4_put := fun w h => (goodIn_r (u_ws RX4 TX4 3) [3, 4, 5] rfl (by decide +kernel) w h).1
set_option maxHeartbeats 4000000 in
set_option maxRecDepth 100000 in
theorem c_Sh_put (l : Launch) (D : va_G) (cI cJ cZ cP cS : ClassId) (po : zPool) (h0 e0 : Nat) (he si : Int32) (fe : Nat → Int64) (i : Int32) (v : Int64) (hy0 : (-1) ≤ he.toInt) (hy1 : he.toInt ≤ 103) (hy2 : 0 ≤ si.toInt) (hy3 : si.toInt ≤ 160) (hy4 : 0 ≤ i.toInt) (hy5 : i.toInt ≤ 159) (hpz : Nat) : Met l yX4_put wsX4_put ({ frames := 0, cells := 0, slots := 0, locals := 0 }) (va_Pc [.ref h0, .int i, .long v] (zW D (zKT cI cJ cZ cP cS) po [(h0, .inr (4, [.ref e0, .int he, .int si])), (e0, .inl (cJ, 160, .inr (.inl fe)))] hpz)) (va_Qv (fun (fe2 : (Nat → Int64)) => True) (zB D [(h0, .inr (4, [.ref e0, .int he, .int si])), (e0, .inl (cJ, 160, .inr (.inl fe)))] hpz (fun (fe2 : Nat → Int64) => [(h0, .inr (4, [.ref e0, .int he, .int si])), (e0, .inl (cJ, 160, .inr (.inl fe2)))])) (va_A [(h0, .inr (4, [.ref e0, .int he, .int si])), (e0, .inl (cJ, 160, .inr (.inl fe)))] hpz)) 0 0 (va_A [(h0, .inr (4, [.ref e0, .int he, .int si])), (e0, .inl (cJ, 160, .inr (.inl fe)))] hpz) := by
  refine Met.ofW (cc := cX4_put) (maxL := 4) (ret := none) (by decide) rfl ?_
  intro p e s m args below meth c s₁ B hml hv
  obtain ⟨rfl, hsz, hP, hK, hD0, hN, hZ⟩ := hv
  have hx := B.exec
  have hb := B.bytes
  have hr := B.returns
  have hts := atoms_spec (ws := wsX4_put) B.pre
  have hown : s.vm.findClass RX4 = some m.cls := findClass_of_methodNamed B.named
  have hlocks := B.notSynchronized
  subst hsz
  have hD := hD0.self (sz := s.heap.size)
  have hA : ∀ q : Nat, s.heap.size ≤ q → va_A [(h0, .inr (4, [.ref e0, .int he, .int si])), (e0, .inl (cJ, 160, .inr (.inl fe)))] s.heap.size q := fun q h => Or.inr h
  have hS : va_S (va_A [(h0, .inr (4, [.ref e0, .int he, .int si])), (e0, .inl (cJ, 160, .inr (.inl fe)))] s.heap.size) s.heap s.heap [] := va_S.rf
  replace hP : va_P D vwCl _ s.heap := hP
  have hl := lv_entry ([.ref h0, .int i, .long v]) (n := 4) (Nat.le_of_ble_eq_true rfl)
  rw [lg_entry_eq]
  generalize (lg_sl ([.ref h0, .int i, .long v]) ++ List.replicate (4 - (lg_sl ([.ref h0, .int i, .long v])).length) Slot.unset).toArray = ls at hl ⊢
  replace hl : lv_has ls 4 [(0, .ref h0), (1, .int i), (2, .long v)] := hl
  refine zw_start (fun H locs hH hL => ?_)
  replace hP : va_P D vwCl [(h0, .inr (4, [.ref e0, .int he, .int si])), (e0, .inl (cJ, 160, .inr (.inl fe)))] H := by rw [hH]; exact hP
  replace hS : va_S (va_A [(h0, .inr (4, [.ref e0, .int he, .int si])), (e0, .inl (cJ, 160, .inr (.inl fe)))] s.heap.size) s.heap H locs := by rw [hH, hL]; exact hS
  clear hH hL
  refine lv_aload_n hx hb dX4_put_0 rfl (lv_at hl 0 rfl) ?_
  refine va_get (D := D) (ci := 4) (v := .int he) (C := RX4) (T := TX4) (N := 3) hx hb hts hi_X4_put_4 hown hK hP 0 rfl rfl 1 (by decide) (hts (.fieldLink RX4 15 "TheLiningsInIt$Shelf" "held" "I") (List.mem_of_getElem? (i := 1) rfl)) (fun _ h9 => h9) rfl dX4_put_1 ?_
  refine lv_bipush (v := 100) hx hb dX4_put_4 (by decide) ?_
  refine lv_isub hx hb dX4_put_6 ?_
  refine lv_topi (fun x_1 ex_1 => ?_)
  have qx_1 : x_1.toInt = he.toInt - 100 := by rw [ex_1]; exact zf_sub rfl (by decide) (by omega) (by omega)
  by_cases hsp : x_1.toInt < 0 ∨ 2 < x_1.toInt
  · refine lv_tableOut (tgt := 70) hx hb dX4_put_7 hsp (by decide) ?_
    refine lv_aload_n hx hb dX4_put_70 rfl (lv_at hl 0 rfl) ?_
    refine va_get (D := D) (ci := 4) (v := .ref e0) (C := RX4) (T := TX4) (N := 3) hx hb hts hi_X4_put_4 hown hK hP 0 rfl rfl 0 (by decide) (hts (.fieldLink RX4 9 "TheLiningsInIt$Shelf" "elements" "[J") (List.mem_of_getElem? (i := 2) rfl)) (fun _ h9 => h9) rfl dX4_put_71 ?_
    refine lv_iload_n hx hb dX4_put_74 rfl (lv_at hl 1 rfl) ?_
    refine lv_lload_n hx hb dX4_put_75 rfl (lv_at hl 2 rfl) ?_
    refine va_last hx hb hK hP hD hS 1 1 rfl rfl (zf_in (by omega) (by omega)) dX4_put_76 (fun H locs hP hD hS => ?_)
    obtain ⟨g_2, hg_2⟩ : ∃ g : Nat → Int64, g = vp_updL fe i.toNatClampNeg v := ⟨_, rfl⟩
    rw [← hg_2] at hP hD
    clear hg_2
    replace hP : va_P D vwCl [(h0, .inr (4, [.ref e0, .int he, .int si])), (e0, .inl (cJ, 160, .inr (.inl g_2)))] H := hP
    replace hD : va_D _ [(h0, .inr (4, [.ref e0, .int he, .int si])), (e0, .inl (cJ, 160, .inr (.inl g_2)))] := hD
    exact W.vret hx hb hr (fun t ht hW => ⟨⟨g_2, rfl, trivial, by rw [ht]; exact hP.sub (ws' := [(h0, .inr (4, [.ref e0, .int he, .int si])), (e0, .inl (cJ, 160, .inr (.inl g_2)))]) [0, 1] rfl, hD.sub (ws' := [(h0, .inr (4, [.ref e0, .int he, .int si])), (e0, .inl (cJ, 160, .inr (.inl g_2)))]) [0, 1] (by decide) rfl⟩, hS.F ht⟩) hS.2.2 dX4_put_77
  · have hsp : x_1 = 0 ∨ x_1 = 1 ∨ x_1 = 2 := by
      rcases (show x_1.toInt = 0 ∨ x_1.toInt = 1 ∨ x_1.toInt = 2 by omega) with h9 | h9 | h9
      · refine Or.inl ?_; exact zf_val h9 (by decide)
      · refine Or.inr (Or.inl ?_); exact zf_val h9 (by decide)
      · refine Or.inr (Or.inr (?_)); exact zf_val h9 (by decide)
    rcases hsp with rfl | rfl | rfl
    · have kc0 : (0 : Int32).toInt = 0 := by decide
      refine lv_tableIn (tgt := 32) hx hb dX4_put_7 (by decide) (by decide) rfl (by decide) ?_
      refine lv_aload_n hx hb dX4_put_32 rfl (lv_at hl 0 rfl) ?_
      refine va_get (D := D) (ci := 4) (v := .ref e0) (C := RX4) (T := TX4) (N := 3) hx hb hts hi_X4_put_4 hown hK hP 0 rfl rfl 0 (by decide) (hts (.fieldLink RX4 9 "TheLiningsInIt$Shelf" "elements" "[J") (List.mem_of_getElem? (i := 2) rfl)) (fun _ h9 => h9) rfl dX4_put_33 ?_
      refine lv_iload_n hx hb dX4_put_36 rfl (lv_at hl 1 rfl) ?_
      refine lv_lload_n hx hb dX4_put_37 rfl (lv_at hl 2 rfl) ?_
      refine lv_l2i hx hb dX4_put_38 rfl ?_
      refine lv_topi (fun x_3 ex_3 => ?_)
      refine lv_i2b hx hb dX4_put_39 rfl ?_
      refine lv_topi (fun x_4 ex_4 => ?_)
      refine lv_i2l hx hb dX4_put_40 rfl ?_
      refine lv_topl (fun y_5 ey_5 => ?_)
      refine va_last hx hb hK hP hD hS 1 1 rfl rfl (zf_in (by omega) (by omega)) dX4_put_41 (fun H locs hP hD hS => ?_)
      obtain ⟨g_6, hg_6⟩ : ∃ g : Nat → Int64, g = vp_updL fe i.toNatClampNeg y_5 := ⟨_, rfl⟩
      rw [← hg_6] at hP hD
      clear hg_6
      replace hP : va_P D vwCl [(h0, .inr (4, [.ref e0, .int he, .int si])), (e0, .inl (cJ, 160, .inr (.inl g_6)))] H := hP
      replace hD : va_D _ [(h0, .inr (4, [.ref e0, .int he, .int si])), (e0, .inl (cJ, 160, .inr (.inl g_6)))] := hD
      refine lv_goto (tgt := 77) hx hb dX4_put_42 (by decide) ?_
      exact W.vret hx hb hr (fun t ht hW => ⟨⟨g_6, rfl, trivial, by rw [ht]; exact hP.sub (ws' := [(h0, .inr (4, [.ref e0, .int he, .int si])), (e0, .inl (cJ, 160, .inr (.inl g_6)))]) [0, 1] rfl, hD.sub (ws' := [(h0, .inr (4, [.ref e0, .int he, .int si])), (e0, .inl (cJ, 160, .inr (.inl g_6)))]) [0, 1] (by decide) rfl⟩, hS.F ht⟩) hS.2.2 dX4_put_77
    · have kc1 : (1 : Int32).toInt = 1 := by decide
      refine lv_tableIn (tgt := 45) hx hb dX4_put_7 (by decide) (by decide) rfl (by decide) ?_
      refine lv_aload_n hx hb dX4_put_45 rfl (lv_at hl 0 rfl) ?_
      refine va_get (D := D) (ci := 4) (v := .ref e0) (C := RX4) (T := TX4) (N := 3) hx hb hts hi_X4_put_4 hown hK hP 0 rfl rfl 0 (by decide) (hts (.fieldLink RX4 9 "TheLiningsInIt$Shelf" "elements" "[J") (List.mem_of_getElem? (i := 2) rfl)) (fun _ h9 => h9) rfl dX4_put_46 ?_
      refine lv_iload_n hx hb dX4_put_49 rfl (lv_at hl 1 rfl) ?_
      refine lv_lload_n hx hb dX4_put_50 rfl (lv_at hl 2 rfl) ?_
      refine lv_l2i hx hb dX4_put_51 rfl ?_
      refine lv_topi (fun x_7 ex_7 => ?_)
      refine lv_i2s hx hb dX4_put_52 rfl ?_
      refine lv_topi (fun x_8 ex_8 => ?_)
      refine lv_i2l hx hb dX4_put_53 rfl ?_
      refine lv_topl (fun y_9 ey_9 => ?_)
      refine va_last hx hb hK hP hD hS 1 1 rfl rfl (zf_in (by omega) (by omega)) dX4_put_54 (fun H locs hP hD hS => ?_)
      obtain ⟨g_10, hg_10⟩ : ∃ g : Nat → Int64, g = vp_updL fe i.toNatClampNeg y_9 := ⟨_, rfl⟩
      rw [← hg_10] at hP hD
      clear hg_10
      replace hP : va_P D vwCl [(h0, .inr (4, [.ref e0, .int he, .int si])), (e0, .inl (cJ, 160, .inr (.inl g_10)))] H := hP
      replace hD : va_D _ [(h0, .inr (4, [.ref e0, .int he, .int si])), (e0, .inl (cJ, 160, .inr (.inl g_10)))] := hD
      refine lv_goto (tgt := 77) hx hb dX4_put_55 (by decide) ?_
      exact W.vret hx hb hr (fun t ht hW => ⟨⟨g_10, rfl, trivial, by rw [ht]; exact hP.sub (ws' := [(h0, .inr (4, [.ref e0, .int he, .int si])), (e0, .inl (cJ, 160, .inr (.inl g_10)))]) [0, 1] rfl, hD.sub (ws' := [(h0, .inr (4, [.ref e0, .int he, .int si])), (e0, .inl (cJ, 160, .inr (.inl g_10)))]) [0, 1] (by decide) rfl⟩, hS.F ht⟩) hS.2.2 dX4_put_77
    · have kc2 : (2 : Int32).toInt = 2 := by decide
      refine lv_tableIn (tgt := 58) hx hb dX4_put_7 (by decide) (by decide) rfl (by decide) ?_
      refine lv_aload_n hx hb dX4_put_58 rfl (lv_at hl 0 rfl) ?_
      refine va_get (D := D) (ci := 4) (v := .ref e0) (C := RX4) (T := TX4) (N := 3) hx hb hts hi_X4_put_4 hown hK hP 0 rfl rfl 0 (by decide) (hts (.fieldLink RX4 9 "TheLiningsInIt$Shelf" "elements" "[J") (List.mem_of_getElem? (i := 2) rfl)) (fun _ h9 => h9) rfl dX4_put_59 ?_
      refine lv_iload_n hx hb dX4_put_62 rfl (lv_at hl 1 rfl) ?_
      refine lv_lload_n hx hb dX4_put_63 rfl (lv_at hl 2 rfl) ?_
      refine lv_l2i hx hb dX4_put_64 rfl ?_
      refine lv_topi (fun x_11 ex_11 => ?_)
      refine lv_i2l hx hb dX4_put_65 rfl ?_
      refine lv_topl (fun y_12 ey_12 => ?_)
      refine va_last hx hb hK hP hD hS 1 1 rfl rfl (zf_in (by omega) (by omega)) dX4_put_66 (fun H locs hP hD hS => ?_)
      obtain ⟨g_13, hg_13⟩ : ∃ g : Nat → Int64, g = vp_updL fe i.toNatClampNeg y_12 := ⟨_, rfl⟩
      rw [← hg_13] at hP hD
      clear hg_13
      replace hP : va_P D vwCl [(h0, .inr (4, [.ref e0, .int he, .int si])), (e0, .inl (cJ, 160, .inr (.inl g_13)))] H := hP
      replace hD : va_D _ [(h0, .inr (4, [.ref e0, .int he, .int si])), (e0, .inl (cJ, 160, .inr (.inl g_13)))] := hD
      refine lv_goto (tgt := 77) hx hb dX4_put_67 (by decide) ?_
      exact W.vret hx hb hr (fun t ht hW => ⟨⟨g_13, rfl, trivial, by rw [ht]; exact hP.sub (ws' := [(h0, .inr (4, [.ref e0, .int he, .int si])), (e0, .inl (cJ, 160, .inr (.inl g_13)))]) [0, 1] rfl, hD.sub (ws' := [(h0, .inr (4, [.ref e0, .int he, .int si])), (e0, .inl (cJ, 160, .inr (.inl g_13)))]) [0, 1] (by decide) rfl⟩, hS.F ht⟩) hS.2.2 dX4_put_77
