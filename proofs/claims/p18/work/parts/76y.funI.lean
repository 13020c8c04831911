set_option maxHeartbeats 4000000 in
set_option maxRecDepth 100000 in
theorem c_F_fillJ (l : Launch) (D : va_G) (cI cJ cZ cP cS : ClassId) (po : zPool) (e0 : Nat) (v : Int64) (fe : Nat → Int64)  (hpz : Nat) : Met l yJ7_fill_d0a16 wsJ7_fill_d0a16 ({ frames := 0, cells := 0, slots := 0, locals := 0 }) (va_Pc [.ref e0, .long v] (zW D (zKT cI cJ cZ cP cS) po [(e0, .inl (cJ, 160, .inr (.inl fe)))] hpz)) (va_Qv (fun (fe2 : (Nat → Int64)) => ((∀ k : Nat, k < 160 → fe2 k = v)) ∧ (True)) (zB D [(e0, .inl (cJ, 160, .inr (.inl fe)))] hpz (fun (fe2 : Nat → Int64) => [(e0, .inl (cJ, 160, .inr (.inl fe2)))])) (va_A [(e0, .inl (cJ, 160, .inr (.inl fe)))] hpz)) 0 0 (va_A [(e0, .inl (cJ, 160, .inr (.inl fe)))] hpz) := by
  refine Met.ofW (cc := cJ7_fill_d0a16) (maxL := 5) (ret := none) (by decide) rfl ?_
  intro p e s m args below meth c s₁ B hml hv
  obtain ⟨rfl, hsz, hP, hK, hD0, hN, hZ⟩ := hv
  have hx := B.exec
  have hb := B.bytes
  have hr := B.returns
  have hts := atoms_spec (ws := wsJ7_fill_d0a16) B.pre
  have hown : s.vm.findClass RJ7 = some m.cls := findClass_of_methodNamed B.named
  have hlocks := B.notSynchronized
  subst hsz
  have hD := hD0.self (sz := s.heap.size)
  have hA := zA_of hD
  have hl := lv_entry ([.ref e0, .long v]) (n := 5) (Nat.le_of_ble_eq_true rfl)
  rw [lg_entry_eq]
  generalize (lg_sl ([.ref e0, .long v]) ++ List.replicate (5 - (lg_sl ([.ref e0, .long v])).length) Slot.unset).toArray = ls at hl ⊢
  replace hl : lv_has ls 5 [(0, .ref e0), (1, .long v)] := hl
  refine zw_begin hP hD (fun H locs hP1 hS => ?_)
  clear hP
  have hP := hP1
  clear hP1
  refine lv_iconst (v := 0) hx hb dJ7_fill_d0a16_0 (by decide) ?_
  refine lv_istore_n (lv' := [(3, .int 0), (0, .ref e0), (1, .long v)]) hx hb dJ7_fill_d0a16_1 rfl hl (by decide) rfl (fun ls hl => ?_)
  refine lv_aload_n hx hb dJ7_fill_d0a16_2 rfl (lv_at hl 1 rfl) ?_
  refine va_alen (v := 160) hx hb hK hP 0 1 rfl rfl rfl dJ7_fill_d0a16_3 ?_
  refine lv_istore (lv' := [(4, .int 160), (3, .int 0), (0, .ref e0), (1, .long v)]) hx hb dJ7_fill_d0a16_4 hl (by decide) rfl (fun ls hl => ?_)
  obtain ⟨i_6, hi_6⟩ : ∃ i : Int32, i = 0 := ⟨_, rfl⟩
  replace hl : lv_has ls 5 [(4, .int 160), (3, .int i_6), (0, .ref e0), (1, .long v)] := by rw [hi_6]; exact lv_sub hl [0, 1, 2, 3] rfl
  have h1i_6 : i_6.toInt = 0 := by rw [hi_6]; decide
  obtain ⟨nfu, hni_6⟩ : ∃ nq9 : Nat, 160 ≤ i_6.toInt + (nq9 : Int) := ⟨((160 : Int) - 0).toNat, by omega⟩
  have hloi_6 : 0 ≤ i_6.toInt := by omega
  obtain ⟨g_1, hg_1⟩ : ∃ g : Nat → Int64, g = fe := ⟨_, rfl⟩
  replace hP : va_P D vwCl [(e0, .inl (cJ, 160, .inr (.inl g_1)))] H := by rw [hg_1]; exact hP
  replace hD : va_D (va_A [(e0, .inl (cJ, 160, .inr (.inl fe)))] s.heap.size) [(e0, .inl (cJ, 160, .inr (.inl g_1)))] := by rw [hg_1]; exact hD
  have hvi_6_0 : (∀ k : Nat, (k : Int) < i_6.toInt → g_1 k = v) := by
    (try rw [hi_6]); (try rw [hg_1]); (intro k hk; exfalso; have k0 : (0 : Int32).toInt = 0 := (by decide); omega)
  clear h1i_6 hi_6 hg_1
  skip
  revert hni_6
  revert hloi_6
  revert hvi_6_0
  revert hl
  revert hS
  revert hD
  revert hP
  revert ls
  revert locs
  revert H
  revert g_1
  revert i_6
  induction nfu with
  | zero =>
    intro i_6 g_1 H locs ls hP hD hS hl hvi_6_0 hloi_6 hni_6
    have hzi_6 : 160 ≤ i_6.toInt := by omega
    refine lv_iload_n hx hb dJ7_fill_d0a16_6 rfl (lv_at hl 1 rfl) ?_
    refine lv_iload hx hb dJ7_fill_d0a16_7 (lv_at hl 0 rfl) ?_
    refine lv_icmp_ge (tgt := 22) hx hb dJ7_fill_d0a16_9 (by decide) (fun c_2 => ?_) (fun c_2 => ?_)
    · have fc_2 : 160 ≤ i_6.toInt := zf_le c_2 (by decide) rfl
      exact W.vret hx hb hr (fun t ht hW => ⟨⟨g_1, rfl, ⟨(show (∀ k : Nat, k < 160 → g_1 k = v) from by (intro k hk; exact hvi_6_0 k (by omega))), trivial⟩, zRet ht hP hD [0] (by decide) rfl⟩, hS.F ht⟩) hS.2.2 dJ7_fill_d0a16_22
    · exfalso; have fc_2 : i_6.toInt < 160 := zf_nle c_2 (by decide) rfl; omega
  | succ nfu ih =>
    intro i_6 g_1 H locs ls hP hD hS hl hvi_6_0 hloi_6 hni_6
    refine lv_iload_n hx hb dJ7_fill_d0a16_6 rfl (lv_at hl 1 rfl) ?_
    refine lv_iload hx hb dJ7_fill_d0a16_7 (lv_at hl 0 rfl) ?_
    refine lv_icmp_ge (tgt := 22) hx hb dJ7_fill_d0a16_9 (by decide) (fun c_3 => ?_) (fun c_3 => ?_)
    · have fc_3 : 160 ≤ i_6.toInt := zf_le c_3 (by decide) rfl
      exact W.vret hx hb hr (fun t ht hW => ⟨⟨g_1, rfl, ⟨(show (∀ k : Nat, k < 160 → g_1 k = v) from by (intro k hk; exact hvi_6_0 k (by omega))), trivial⟩, zRet ht hP hD [0] (by decide) rfl⟩, hS.F ht⟩) hS.2.2 dJ7_fill_d0a16_22
    · have fc_3 : i_6.toInt < 160 := zf_nle c_3 (by decide) rfl
      refine lv_aload_n hx hb dJ7_fill_d0a16_12 rfl (lv_at hl 2 rfl) ?_
      refine lv_iload_n hx hb dJ7_fill_d0a16_13 rfl (lv_at hl 1 rfl) ?_
      refine lv_lload_n hx hb dJ7_fill_d0a16_14 rfl (lv_at hl 3 rfl) ?_
      refine va_last hx hb hK hP hD hS 0 1 rfl rfl (zf_in (by omega) (by omega)) dJ7_fill_d0a16_15 (fun H locs hP hD hS => ?_)
      obtain ⟨g_4, hg_4⟩ : ∃ g : Nat → Int64, g = vp_updL g_1 i_6.toNatClampNeg v := ⟨_, rfl⟩
      rw [← hg_4] at hP hD
      have h9R := zRe (ws' := [(e0, .inl (cJ, 160, .inr (.inl g_4)))]) hP hD rfl
      clear hP hD
      obtain ⟨hP, hD⟩ := h9R
      obtain ⟨x_5, ex_5⟩ : ∃ y : Int32, y = i_6 + 1 := ⟨_, rfl⟩
      have qx_5 : x_5.toInt = i_6.toInt + 1 := dw_incK ex_5 fc_3 (by decide)
      refine lv_iinc (v := x_5) (lv' := [(3, .int x_5), (4, .int 160), (0, .ref e0), (1, .long v)]) hx hb dJ7_fill_d0a16_16 hl (k := 1) rfl ex_5.symm (by decide) rfl (fun ls hl => ?_)
      refine lv_goto (tgt := 6) hx hb dJ7_fill_d0a16_19 (by decide) ?_
      exact ih x_5 (g_4) _ _ _ (hP.sub [0] rfl) (hD.sub [0] (by decide) rfl) hS (lv_sub hl [1, 0, 2, 3] rfl) (show (∀ k : Nat, (k : Int) < x_5.toInt → g_4 k = v) from by (intro k hk; rw [hg_4]; simp only [vp_updL]; have h7 : i_6.toNatClampNeg = i_6.toInt.toNat := rfl; by_cases e9 : k = i_6.toNatClampNeg; (rw [if_pos e9]); (rw [if_neg e9]; exact hvi_6_0 k (by omega)))) (dw_lo hloi_6 qx_5) (dw_hn hni_6 qx_5)
set_option maxHeartbeats 4000000 in
set_option maxRecDepth 100000 in
theorem c_F_Sh_holdRow (l : Launch) (D : va_G) (cI cJ cZ cP cS : ClassId) (po : zPool) (h0 e0 : Nat) (he si : Int32) (fe : Nat → Int64) (o n : Int32) (hy0 : (-1) ≤ he.toInt) (hy1 : he.toInt ≤ 103) (hy2 : 0 ≤ si.toInt) (hy3 : si.toInt ≤ 160) (hy4 : 0 ≤ o.toInt) (hy5 : o.toInt ≤ 3) (hy6 : 0 ≤ n.toInt) (hy7 : n.toInt ≤ 160) (hpz : Nat) : Met l yX4_holdRow wsX4_holdRow ({ frames := 1, cells := 0, slots := 0, locals := 24 }) (va_Pc [.ref h0, .int o, .int n] (zW D (zKT cI cJ cZ cP cS) po [(h0, .inr (4, [.ref e0, .int he, .int si])), (e0, .inl (cJ, 160, .inr (.inl fe)))] hpz)) (va_Qv (fun (u : (Int32) × (Int32) × (Nat → Int64)) => ((-1) ≤ u.1.toInt ∧ u.1.toInt ≤ 103) ∧ (0 ≤ u.2.1.toInt ∧ u.2.1.toInt ≤ 160) ∧ (u.1.toInt = 100 + o.toInt) ∧ (u.2.1 = n) ∧ ((∀ k : Nat, k < 160 → u.2.2 k = 0)) ∧ (True)) (zB D [(h0, .inr (4, [.ref e0, .int he, .int si])), (e0, .inl (cJ, 160, .inr (.inl fe)))] hpz (fun (u : (Int32) × (Int32) × (Nat → Int64)) => [(h0, .inr (4, [.ref e0, .int u.1, .int u.2.1])), (e0, .inl (cJ, 160, .inr (.inl u.2.2)))])) (va_A [(h0, .inr (4, [.ref e0, .int he, .int si])), (e0, .inl (cJ, 160, .inr (.inl fe)))] hpz)) 0 0 (va_A [(h0, .inr (4, [.ref e0, .int he, .int si])), (e0, .inl (cJ, 160, .inr (.inl fe)))] hpz) := by
  refine Met.ofW (cc := cX4_holdRow) (maxL := 3) (ret := none) (by decide) rfl ?_
  intro p e s m args below meth c s₁ B hml hv
  obtain ⟨rfl, hsz, hP, hK, hD0, hN, hZ⟩ := hv
  have hx := B.exec
  have hb := B.bytes
  have hr := B.returns
  have hts := atoms_spec (ws := wsX4_holdRow) B.pre
  have hown : s.vm.findClass RX4 = some m.cls := findClass_of_methodNamed B.named
  have hlocks := B.notSynchronized
  subst hsz
  have hD := hD0.self (sz := s.heap.size)
  have hA := zA_of hD
  have hl := lv_entry ([.ref h0, .int o, .int n]) (n := 3) (Nat.le_of_ble_eq_true rfl)
  rw [lg_entry_eq]
  generalize (lg_sl ([.ref h0, .int o, .int n]) ++ List.replicate (3 - (lg_sl ([.ref h0, .int o, .int n])).length) Slot.unset).toArray = ls at hl ⊢
  replace hl : lv_has ls 3 [(0, .ref h0), (1, .int o), (2, .int n)] := hl
  refine zw_begin hP hD (fun H locs hP1 hS => ?_)
  clear hP
  have hP := hP1
  clear hP1
  refine lv_aload_n hx hb dX4_holdRow_0 rfl (lv_at hl 0 rfl) ?_
  refine lv_bipush (v := 100) hx hb dX4_holdRow_1 (by decide) ?_
  refine lv_iload_n hx hb dX4_holdRow_3 rfl (lv_at hl 1 rfl) ?_
  refine lv_iadd hx hb dX4_holdRow_4 ?_
  refine lv_topi (fun x_1 ex_1 => ?_)
  have qx_1 : x_1.toInt = 100 + o.toInt := by rw [ex_1]; exact zf_add (by decide) rfl (by omega) (by omega)
  refine va_put (D := D) (ci := 4) (v := .int x_1) (ty := .int) (C := RX4) (T := TX4) (N := 3) hx hb hts hi_X4_holdRow_4 tyX4 tyX4_ok nmX4 hown hK hP hD hS 0 rfl rfl 1 (by decide) (hts (.fieldLink RX4 15 "TheLiningsInIt$Shelf" "held" "I") (List.mem_of_getElem? (i := 1) rfl)) (fun _ h9 => h9) rfl (tyX4_ok 1 (Nat.le_of_ble_eq_true rfl)) rfl rfl (Nat.le_of_ble_eq_true rfl) dX4_holdRow_5 (fun H locs hP hD hS => ?_)
  have h9R := zRe (ws' := [(h0, .inr (4, [.ref e0, .int x_1, .int si])), (e0, .inl (cJ, 160, .inr (.inl fe)))]) hP hD rfl
  clear hP hD
  obtain ⟨hP, hD⟩ := h9R
  refine lv_aload_n hx hb dX4_holdRow_8 rfl (lv_at hl 0 rfl) ?_
  refine lv_iload_n hx hb dX4_holdRow_9 rfl (lv_at hl 2 rfl) ?_
  refine va_put (D := D) (ci := 4) (v := .int n) (ty := .int) (C := RX4) (T := TX4) (N := 3) hx hb hts hi_X4_holdRow_4 tyX4 tyX4_ok nmX4 hown hK hP hD hS 0 rfl rfl 2 (by decide) (hts (.fieldLink RX4 19 "TheLiningsInIt$Shelf" "size" "I") (List.mem_of_getElem? (i := 2) rfl)) (fun _ h9 => h9) rfl (tyX4_ok 2 (Nat.le_of_ble_eq_true rfl)) rfl rfl (Nat.le_of_ble_eq_true rfl) dX4_holdRow_10 (fun H locs hP hD hS => ?_)
  have h9R := zRe (ws' := [(h0, .inr (4, [.ref e0, .int x_1, .int n])), (e0, .inl (cJ, 160, .inr (.inl fe)))]) hP hD rfl
  clear hP hD
  obtain ⟨hP, hD⟩ := h9R
  refine lv_aload_n hx hb dX4_holdRow_13 rfl (lv_at hl 0 rfl) ?_
  refine va_get (D := D) (ci := 4) (v := .ref e0) (C := RX4) (T := TX4) (N := 3) hx hb hts hi_X4_holdRow_4 hown hK hP 0 rfl rfl 0 (by decide) (hts (.fieldLink RX4 9 "TheLiningsInIt$Shelf" "elements" "[J") (List.mem_of_getElem? (i := 3) rfl)) (fun _ h9 => h9) rfl dX4_holdRow_14 ?_
  refine lv_lconst (v := 0) hx hb dX4_holdRow_17 (by decide) ?_
  skip
  refine zw_Sv (As := [.ref e0, .long 0]) (rest := []) (wr := [(h0, .inr (4, [.ref e0, .int x_1, .int n]))]) ⟨hx, hb, hml, hown, hts⟩ (c_F_fillJ l D cI cJ cZ cP cS po e0 (0) fe  H.size) (va_cwS 2 hts gX4_holdRow_J7_fill_d0a16 rfl rfl rfl dh_J7_fill_d0a16 ⟨Nat.le_of_ble_eq_true rfl, Nat.le_of_ble_eq_true rfl⟩) hK hN (hZ.kept hS) hP hD hS hA [1] [0] rfl rfl (by decide) (by decide) (by decide) rfl hl.1 rfl (Nat.le_of_ble_eq_true rfl) dX4_holdRow_18 ⟨Nat.le_of_ble_eq_true rfl, Nat.le_of_ble_eq_true rfl⟩ (fun u_3 H locs hr_2 hP hD hS => ?_)
  obtain ⟨q_4, rfl⟩ : ∃ z, z = u_3 := ⟨_, rfl⟩
  obtain ⟨hsr_2_0, hr_2⟩ := hr_2
  have h9R := zRe (ws' := [(h0, .inr (4, [.ref e0, .int x_1, .int n])), (e0, .inl (cJ, 160, .inr (.inl q_4)))]) hP hD rfl
  clear hP hD
  obtain ⟨hP, hD⟩ := h9R
  exact W.vret hx hb hr (fun t ht hW => ⟨⟨(x_1, n, q_4), rfl, ⟨(show (-1) ≤ x_1.toInt ∧ x_1.toInt ≤ 103 from ⟨by omega, by omega⟩), (show 0 ≤ n.toInt ∧ n.toInt ≤ 160 from ⟨hy6, hy7⟩), (show x_1.toInt = 100 + o.toInt from by omega), (show n = n from by rfl), (show (∀ k : Nat, k < 160 → q_4 k = 0) from by exact hsr_2_0), trivial⟩, zRet ht hP hD [0, 1] (by decide) rfl⟩, hS.F ht⟩) hS.2.2 dX4_holdRow_21
set_option maxHeartbeats 4000000 in
set_option maxRecDepth 100000 in
theorem c_F_Sh_put (l : Launch) (D : va_G) (cI cJ cZ cP cS : ClassId) (po : zPool) (h0 e0 : Nat) (he si : Int32) (fe : Nat → Int64) (i : Int32) (v : Int64) (hy0 : (-1) ≤ he.toInt) (hy1 : he.toInt ≤ 103) (hy2 : 0 ≤ si.toInt) (hy3 : si.toInt ≤ 160) (hy4 : 0 ≤ i.toInt) (hy5 : i.toInt ≤ 159) (hy6 : 100 ≤ he.toInt) (hpz : Nat) : Met l yX4_put wsX4_put ({ frames := 0, cells := 0, slots := 0, locals := 0 }) (va_Pc [.ref h0, .int i, .long v] (zW D (zKT cI cJ cZ cP cS) po [(h0, .inr (4, [.ref e0, .int he, .int si])), (e0, .inl (cJ, 160, .inr (.inl fe)))] hpz)) (va_Qv (fun (fe2 : (Nat → Int64)) => (fe2 = vp_updL fe i.toNatClampNeg (zNar (he.toInt - 100) v)) ∧ (True)) (zB D [(h0, .inr (4, [.ref e0, .int he, .int si])), (e0, .inl (cJ, 160, .inr (.inl fe)))] hpz (fun (fe2 : Nat → Int64) => [(h0, .inr (4, [.ref e0, .int he, .int si])), (e0, .inl (cJ, 160, .inr (.inl fe2)))])) (va_A [(h0, .inr (4, [.ref e0, .int he, .int si])), (e0, .inl (cJ, 160, .inr (.inl fe)))] hpz)) 0 0 (va_A [(h0, .inr (4, [.ref e0, .int he, .int si])), (e0, .inl (cJ, 160, .inr (.inl fe)))] hpz) := by
  refine Met.ofW (cc := cX4_put) (maxL := 4) (ret := none) (by decide) rfl ?_
  intro p e s m args below meth c s₁ B hml hv
  obtain ⟨rfl, hsz, hP, hK, hD0, hN, hZ⟩ := hv
  have hx := B.exec
  have hb := B.bytes
  have hr := B.returns
  have hts := atoms_spec (ws := wsX4_put) B.pre
  have hown : s.vm.findClass RX4 = some m.cls := findClass_of_methodNamed B.named
  have hlocks := B.notSynchronized
  subst hsz
  have hD := hD0.self (sz := s.heap.size)
  have hA := zA_of hD
  have hl := lv_entry ([.ref h0, .int i, .long v]) (n := 4) (Nat.le_of_ble_eq_true rfl)
  rw [lg_entry_eq]
  generalize (lg_sl ([.ref h0, .int i, .long v]) ++ List.replicate (4 - (lg_sl ([.ref h0, .int i, .long v])).length) Slot.unset).toArray = ls at hl ⊢
  replace hl : lv_has ls 4 [(0, .ref h0), (1, .int i), (2, .long v)] := hl
  refine zw_begin hP hD (fun H locs hP1 hS => ?_)
  clear hP
  have hP := hP1
  clear hP1
  refine lv_aload_n hx hb dX4_put_0 rfl (lv_at hl 0 rfl) ?_
  refine va_get (D := D) (ci := 4) (v := .int he) (C := RX4) (T := TX4) (N := 3) hx hb hts hi_X4_put_4 hown hK hP 0 rfl rfl 1 (by decide) (hts (.fieldLink RX4 15 "TheLiningsInIt$Shelf" "held" "I") (List.mem_of_getElem? (i := 1) rfl)) (fun _ h9 => h9) rfl dX4_put_1 ?_
  refine lv_bipush (v := 100) hx hb dX4_put_4 (by decide) ?_
  refine lv_isub hx hb dX4_put_6 ?_
  refine lv_topi (fun x_1 ex_1 => ?_)
  have qx_1 : x_1.toInt = he.toInt - 100 := by rw [ex_1]; exact zf_sub rfl (by decide) (by omega) (by omega)
  have hsp : x_1 = 0 ∨ x_1 = 1 ∨ x_1 = 2 ∨ x_1 = 3 := by
    rcases (show x_1.toInt = 0 ∨ x_1.toInt = 1 ∨ x_1.toInt = 2 ∨ x_1.toInt = 3 by omega) with h9 | h9 | h9 | h9
    · refine Or.inl ?_; exact zf_val h9 (by decide)
    · refine Or.inr (Or.inl ?_); exact zf_val h9 (by decide)
    · refine Or.inr (Or.inr (Or.inl ?_)); exact zf_val h9 (by decide)
    · refine Or.inr (Or.inr (Or.inr (?_))); exact zf_val h9 (by decide)
  rcases hsp with rfl | rfl | rfl | rfl
  · have kc0 : (0 : Int32).toInt = 0 := by decide
    refine lv_tableIn (tgt := 32) hx hb dX4_put_7 (by decide) (by decide) rfl (by decide) ?_
    refine lv_aload_n hx hb dX4_put_32 rfl (lv_at hl 0 rfl) ?_
    refine va_get (D := D) (ci := 4) (v := .ref e0) (C := RX4) (T := TX4) (N := 3) hx hb hts hi_X4_put_4 hown hK hP 0 rfl rfl 0 (by decide) (hts (.fieldLink RX4 9 "TheLiningsInIt$Shelf" "elements" "[J") (List.mem_of_getElem? (i := 2) rfl)) (fun _ h9 => h9) rfl dX4_put_33 ?_
    refine lv_iload_n hx hb dX4_put_36 rfl (lv_at hl 1 rfl) ?_
    refine lv_lload_n hx hb dX4_put_37 rfl (lv_at hl 2 rfl) ?_
    refine lv_l2i hx hb dX4_put_38 rfl ?_
    refine lv_topi (fun x_2 ex_2 => ?_)
    refine lv_i2b hx hb dX4_put_39 rfl ?_
    refine lv_topi (fun x_3 ex_3 => ?_)
    refine lv_i2l hx hb dX4_put_40 rfl ?_
    refine lv_topl (fun y_4 ey_4 => ?_)
    refine va_last hx hb hK hP hD hS 1 1 rfl rfl (zf_in (by omega) (by omega)) dX4_put_41 (fun H locs hP hD hS => ?_)
    obtain ⟨g_5, hg_5⟩ : ∃ g : Nat → Int64, g = vp_updL fe i.toNatClampNeg y_4 := ⟨_, rfl⟩
    rw [← hg_5] at hP hD
    have h9R := zRe (ws' := [(h0, .inr (4, [.ref e0, .int he, .int si])), (e0, .inl (cJ, 160, .inr (.inl g_5)))]) hP hD rfl
    clear hP hD
    obtain ⟨hP, hD⟩ := h9R
    refine lv_goto (tgt := 77) hx hb dX4_put_42 (by decide) ?_
    exact W.vret hx hb hr (fun t ht hW => ⟨⟨g_5, rfl, ⟨(show g_5 = vp_updL fe i.toNatClampNeg (zNar (he.toInt - 100) v) from by (rw [hg_5]; congr 1; rw [ey_4, ex_3, ex_2]; (unfold zNar; repeat (first | rw [if_pos (by omega)] | rw [if_neg (by omega)])))), trivial⟩, zRet ht hP hD [0, 1] (by decide) rfl⟩, hS.F ht⟩) hS.2.2 dX4_put_77
  · have kc1 : (1 : Int32).toInt = 1 := by decide
    refine lv_tableIn (tgt := 45) hx hb dX4_put_7 (by decide) (by decide) rfl (by decide) ?_
    refine lv_aload_n hx hb dX4_put_45 rfl (lv_at hl 0 rfl) ?_
    refine va_get (D := D) (ci := 4) (v := .ref e0) (C := RX4) (T := TX4) (N := 3) hx hb hts hi_X4_put_4 hown hK hP 0 rfl rfl 0 (by decide) (hts (.fieldLink RX4 9 "TheLiningsInIt$Shelf" "elements" "[J") (List.mem_of_getElem? (i := 2) rfl)) (fun _ h9 => h9) rfl dX4_put_46 ?_
    refine lv_iload_n hx hb dX4_put_49 rfl (lv_at hl 1 rfl) ?_
    refine lv_lload_n hx hb dX4_put_50 rfl (lv_at hl 2 rfl) ?_
    refine lv_l2i hx hb dX4_put_51 rfl ?_
    refine lv_topi (fun x_6 ex_6 => ?_)
    refine lv_i2s hx hb dX4_put_52 rfl ?_
    refine lv_topi (fun x_7 ex_7 => ?_)
    refine lv_i2l hx hb dX4_put_53 rfl ?_
    refine lv_topl (fun y_8 ey_8 => ?_)
    refine va_last hx hb hK hP hD hS 1 1 rfl rfl (zf_in (by omega) (by omega)) dX4_put_54 (fun H locs hP hD hS => ?_)
    obtain ⟨g_9, hg_9⟩ : ∃ g : Nat → Int64, g = vp_updL fe i.toNatClampNeg y_8 := ⟨_, rfl⟩
    rw [← hg_9] at hP hD
    have h9R := zRe (ws' := [(h0, .inr (4, [.ref e0, .int he, .int si])), (e0, .inl (cJ, 160, .inr (.inl g_9)))]) hP hD rfl
    clear hP hD
    obtain ⟨hP, hD⟩ := h9R
    refine lv_goto (tgt := 77) hx hb dX4_put_55 (by decide) ?_
    exact W.vret hx hb hr (fun t ht hW => ⟨⟨g_9, rfl, ⟨(show g_9 = vp_updL fe i.toNatClampNeg (zNar (he.toInt - 100) v) from by (rw [hg_9]; congr 1; rw [ey_8, ex_7, ex_6]; (unfold zNar; repeat (first | rw [if_pos (by omega)] | rw [if_neg (by omega)])))), trivial⟩, zRet ht hP hD [0, 1] (by decide) rfl⟩, hS.F ht⟩) hS.2.2 dX4_put_77
  · have kc2 : (2 : Int32).toInt = 2 := by decide
    refine lv_tableIn (tgt := 58) hx hb dX4_put_7 (by decide) (by decide) rfl (by decide) ?_
    refine lv_aload_n hx hb dX4_put_58 rfl (lv_at hl 0 rfl) ?_
    refine va_get (D := D) (ci := 4) (v := .ref e0) (C := RX4) (T := TX4) (N := 3) hx hb hts hi_X4_put_4 hown hK hP 0 rfl rfl 0 (by decide) (hts (.fieldLink RX4 9 "TheLiningsInIt$Shelf" "elements" "[J") (List.mem_of_getElem? (i := 2) rfl)) (fun _ h9 => h9) rfl dX4_put_59 ?_
    refine lv_iload_n hx hb dX4_put_62 rfl (lv_at hl 1 rfl) ?_
    refine lv_lload_n hx hb dX4_put_63 rfl (lv_at hl 2 rfl) ?_
    refine lv_l2i hx hb dX4_put_64 rfl ?_
    refine lv_topi (fun x_10 ex_10 => ?_)
    refine lv_i2l hx hb dX4_put_65 rfl ?_
    refine lv_topl (fun y_11 ey_11 => ?_)
    refine va_last hx hb hK hP hD hS 1 1 rfl rfl (zf_in (by omega) (by omega)) dX4_put_66 (fun H locs hP hD hS => ?_)
    obtain ⟨g_12, hg_12⟩ : ∃ g : Nat → Int64, g = vp_updL fe i.toNatClampNeg y_11 := ⟨_, rfl⟩
    rw [← hg_12] at hP hD
    have h9R := zRe (ws' := [(h0, .inr (4, [.ref e0, .int he, .int si])), (e0, .inl (cJ, 160, .inr (.inl g_12)))]) hP hD rfl
    clear hP hD
    obtain ⟨hP, hD⟩ := h9R
    refine lv_goto (tgt := 77) hx hb dX4_put_67 (by decide) ?_
    exact W.vret hx hb hr (fun t ht hW => ⟨⟨g_12, rfl, ⟨(show g_12 = vp_updL fe i.toNatClampNeg (zNar (he.toInt - 100) v) from by (rw [hg_12]; congr 1; rw [ey_11, ex_10]; (unfold zNar; repeat (first | rw [if_pos (by omega)] | rw [if_neg (by omega)])))), trivial⟩, zRet ht hP hD [0, 1] (by decide) rfl⟩, hS.F ht⟩) hS.2.2 dX4_put_77
  · have kc3 : (3 : Int32).toInt = 3 := by decide
    refine lv_tableOut (tgt := 70) hx hb dX4_put_7 (by decide) (by decide) ?_
    refine lv_aload_n hx hb dX4_put_70 rfl (lv_at hl 0 rfl) ?_
    refine va_get (D := D) (ci := 4) (v := .ref e0) (C := RX4) (T := TX4) (N := 3) hx hb hts hi_X4_put_4 hown hK hP 0 rfl rfl 0 (by decide) (hts (.fieldLink RX4 9 "TheLiningsInIt$Shelf" "elements" "[J") (List.mem_of_getElem? (i := 2) rfl)) (fun _ h9 => h9) rfl dX4_put_71 ?_
    refine lv_iload_n hx hb dX4_put_74 rfl (lv_at hl 1 rfl) ?_
    refine lv_lload_n hx hb dX4_put_75 rfl (lv_at hl 2 rfl) ?_
    refine va_last hx hb hK hP hD hS 1 1 rfl rfl (zf_in (by omega) (by omega)) dX4_put_76 (fun H locs hP hD hS => ?_)
    obtain ⟨g_13, hg_13⟩ : ∃ g : Nat → Int64, g = vp_updL fe i.toNatClampNeg v := ⟨_, rfl⟩
    rw [← hg_13] at hP hD
    have h9R := zRe (ws' := [(h0, .inr (4, [.ref e0, .int he, .int si])), (e0, .inl (cJ, 160, .inr (.inl g_13)))]) hP hD rfl
    clear hP hD
    obtain ⟨hP, hD⟩ := h9R
    exact W.vret hx hb hr (fun t ht hW => ⟨⟨g_13, rfl, ⟨(show g_13 = vp_updL fe i.toNatClampNeg (zNar (he.toInt - 100) v) from by (rw [hg_13]; congr 1; (unfold zNar; repeat (first | rw [if_pos (by omega)] | rw [if_neg (by omega)])))), trivial⟩, zRet ht hP hD [0, 1] (by decide) rfl⟩, hS.F ht⟩) hS.2.2 dX4_put_77
set_option maxHeartbeats 4000000 in
set_option maxRecDepth 100000 in
theorem c_F_X_row (l : Launch) (D : va_G) (cI cJ cZ cP cS : ClassId) (po : zPool) (x0 xs j0 k0 w0 rd mv xr : Nat) (im lf : Int32) (fr : Nat → Int32) (fh : Nat → Option Nat) (s_ : Int32) (h0 e0 : Nat) (he si : Int32) (fe : Nat → Int64) (o n : Int32) (hy0 : 0 ≤ im.toInt) (hy1 : im.toInt ≤ 1) (hy2 : (-1) ≤ lf.toInt) (hy3 : lf.toInt ≤ 160) (hy4 : (-1) ≤ he.toInt) (hy5 : he.toInt ≤ 103) (hy6 : 0 ≤ si.toInt) (hy7 : si.toInt ≤ 160) (hfs : 0 ≤ s_.toInt → s_.toInt ≤ 7 → fh s_.toNatClampNeg = some h0) (hpz : Nat) : Met l yX7_row wsX7_row ({ frames := 2, cells := 0, slots := 0, locals := 46 }) (va_Pc [.ref x0, .int s_, .int o, .int n] (zW D (zKT cI cJ cZ cP cS) po [(x0, .inr (7, [.ref xs, .ref j0, .ref k0, .ref w0, .ref rd, .ref mv, .ref xr, .int im, .int lf])), (xr, .inl (cI, 8, .inl fr)), (xs, .inl (cS, 8, .inr (.inr (.inr (.inr fh))))), (h0, .inr (4, [.ref e0, .int he, .int si])), (e0, .inl (cJ, 160, .inr (.inl fe)))] hpz)) (va_Qi (fun (r : Int32) (u : (Int32) × (Int32) × (Nat → Int64) × (Nat → Int32)) => ((-1) ≤ u.1.toInt ∧ u.1.toInt ≤ 103) ∧ (0 ≤ u.2.1.toInt ∧ u.2.1.toInt ≤ 160) ∧ (r.toInt = zRow s_.toInt o.toInt n.toInt) ∧ ((r.toInt = 1 → u.1.toInt = 100 + o.toInt ∧ u.2.1.toInt = n.toInt ∧ ∀ k : Nat, k < 160 → u.2.2.1 k = 0)) ∧ ((r.toInt ≠ 1 → u.1 = he ∧ u.2.1 = si ∧ u.2.2.1 = fe)) ∧ (True)) (zB D [(x0, .inr (7, [.ref xs, .ref j0, .ref k0, .ref w0, .ref rd, .ref mv, .ref xr, .int im, .int lf])), (xr, .inl (cI, 8, .inl fr)), (xs, .inl (cS, 8, .inr (.inr (.inr (.inr fh))))), (h0, .inr (4, [.ref e0, .int he, .int si])), (e0, .inl (cJ, 160, .inr (.inl fe)))] hpz (fun (u : (Int32) × (Int32) × (Nat → Int64) × (Nat → Int32)) => [(x0, .inr (7, [.ref xs, .ref j0, .ref k0, .ref w0, .ref rd, .ref mv, .ref xr, .int im, .int lf])), (xr, .inl (cI, 8, .inl u.2.2.2)), (xs, .inl (cS, 8, .inr (.inr (.inr (.inr fh))))), (h0, .inr (4, [.ref e0, .int u.1, .int u.2.1])), (e0, .inl (cJ, 160, .inr (.inl u.2.2.1)))])) (va_A [(x0, .inr (7, [.ref xs, .ref j0, .ref k0, .ref w0, .ref rd, .ref mv, .ref xr, .int im, .int lf])), (xr, .inl (cI, 8, .inl fr)), (xs, .inl (cS, 8, .inr (.inr (.inr (.inr fh))))), (h0, .inr (4, [.ref e0, .int he, .int si])), (e0, .inl (cJ, 160, .inr (.inl fe)))] hpz)) 0 0 (va_A [(x0, .inr (7, [.ref xs, .ref j0, .ref k0, .ref w0, .ref rd, .ref mv, .ref xr, .int im, .int lf])), (xr, .inl (cI, 8, .inl fr)), (xs, .inl (cS, 8, .inr (.inr (.inr (.inr fh))))), (h0, .inr (4, [.ref e0, .int he, .int si])), (e0, .inl (cJ, 160, .inr (.inl fe)))] hpz) := by
  refine Met.ofW (cc := cX7_row) (maxL := 5) (ret := (some .int)) (by decide) rfl ?_
  intro p e s m args below meth c s₁ B hml hv
  obtain ⟨rfl, hsz, hP, hK, hD0, hN, hZ⟩ := hv
  have hx := B.exec
  have hb := B.bytes
  have hr := B.returns
  have hts := atoms_spec (ws := wsX7_row) B.pre
  have hown : s.vm.findClass RX7 = some m.cls := findClass_of_methodNamed B.named
  have hlocks := B.notSynchronized
  subst hsz
  have hD := hD0.self (sz := s.heap.size)
  have hA := zA_of hD
  have hl := lv_entry ([.ref x0, .int s_, .int o, .int n]) (n := 5) (Nat.le_of_ble_eq_true rfl)
  rw [lg_entry_eq]
  generalize (lg_sl ([.ref x0, .int s_, .int o, .int n]) ++ List.replicate (5 - (lg_sl ([.ref x0, .int s_, .int o, .int n])).length) Slot.unset).toArray = ls at hl ⊢
  replace hl : lv_has ls 5 [(0, .ref x0), (1, .int s_), (2, .int o), (3, .int n)] := hl
  refine zw_begin hP hD (fun H locs hP1 hS => ?_)
  clear hP
  have hP := hP1
  clear hP1
  refine lv_aload_n hx hb dX7_row_0 rfl (lv_at hl 0 rfl) ?_
  refine lv_iload_n hx hb dX7_row_1 rfl (lv_at hl 1 rfl) ?_
  refine zc_Vq (As := [.int s_]) (rest := []) ⟨hx, hb, hml, hown, hts⟩ (c_X_shelfAt l D cI cJ cZ cP cS po x0 xs j0 k0 w0 rd mv xr (im) (lf) ((fun _ => 0)) fh (s_) hy0 hy1 hy2 hy3) (cwV 1 hts gX7_row_X7_shelfAt rfl rfl rfl ⟨rfl, dh_X7_shelfAt⟩ ⟨Nat.le_of_ble_eq_true rfl, Nat.le_of_ble_eq_true rfl⟩) hK hN (hZ.kept hS) hP (hP.sub [0, 2] rfl) (va_recv (q := (RX7, TX7, 9)) hK hP (ci := 7) (q0 := 0) rfl rfl) rfl hl.1 rfl (Nat.le_of_ble_eq_true rfl) dX7_row_2 ⟨Nat.le_of_ble_eq_true rfl, Nat.le_of_ble_eq_true rfl⟩ (fun r_1 hr_1 => ?_)
  rcases hr_1 with ⟨rfl, g_2⟩ | ⟨rfl, g_3, g_4⟩ | ⟨rfl, g_5, g_6⟩
  · refine lv_astoreN (lv' := [(4, .null), (0, .ref x0), (1, .int s_), (2, .int o), (3, .int n)]) hx hb dX7_row_5 hl (by decide) rfl (fun ls hl => ?_)
    refine lv_aloadN hx hb dX7_row_7 (lv_at hl 0 rfl) ?_
    refine lv_ifnonnullN hx hb dX7_row_9 ?_
    refine lv_aload_n hx hb dX7_row_12 rfl (lv_at hl 1 rfl) ?_
    refine lv_iconst (v := 1) hx hb dX7_row_13 (by decide) ?_
    skip
    refine zw_V (As := [.int 1]) (rest := []) (wr := [(xs, .inl (cS, 8, .inr (.inr (.inr (.inr fh))))), (h0, .inr (4, [.ref e0, .int he, .int si])), (e0, .inl (cJ, 160, .inr (.inl fe)))]) ⟨hx, hb, hml, hown, hts⟩ (c_X_refuse_1 l D cI cJ cZ cP cS po x0 xs j0 k0 w0 rd mv xr (im) (lf) fr hy0 hy1 hy2 hy3 H.size) (cwV 1 hts gX7_row_X7_refuse rfl rfl rfl ⟨rfl, dh_X7_refuse⟩ ⟨Nat.le_of_ble_eq_true rfl, Nat.le_of_ble_eq_true rfl⟩) hK hN (hZ.kept hS) hP hD hS hA [0, 1] [2, 3, 4] rfl rfl (by decide) (by decide) (by decide) (va_recv (q := (RX7, TX7, 9)) hK hP (ci := 7) (q0 := 0) rfl rfl) rfl hl.1 rfl (Nat.le_of_ble_eq_true rfl) dX7_row_14 ⟨Nat.le_of_ble_eq_true rfl, Nat.le_of_ble_eq_true rfl⟩ (fun r_7 u_8 H locs hr_7 hP hD hS => ?_)
    obtain ⟨q_9, rfl⟩ : ∃ z, z = u_8 := ⟨_, rfl⟩
    have h9R := zRe (ws' := [(xs, .inl (cS, 8, .inr (.inr (.inr (.inr fh))))), (h0, .inr (4, [.ref e0, .int he, .int si])), (e0, .inl (cJ, 160, .inr (.inl fe))), (x0, .inr (7, [.ref xs, .ref j0, .ref k0, .ref w0, .ref rd, .ref mv, .ref xr, .int im, .int lf])), (xr, .inl (cI, 8, .inl q_9))]) hP hD rfl
    clear hP hD
    obtain ⟨hP, hD⟩ := h9R
    obtain rfl := hr_7
    exact W.iret (v := (-1)) hx hb hr (fun t ht hW => ⟨⟨(-1), (he, si, fe, q_9), rfl, ⟨(show (-1) ≤ he.toInt ∧ he.toInt ≤ 103 from ⟨hy4, hy5⟩), (show 0 ≤ si.toInt ∧ si.toInt ≤ 160 from ⟨hy6, hy7⟩), (show ((-1) : Int32).toInt = zRow s_.toInt o.toInt n.toInt from by (have k9 : ((-1) : Int32).toInt = -1 := (by decide); unfold zRow; (repeat (first | rw [if_pos (by omega)] | rw [if_neg (by omega)])) <;> omega)), (show (((-1) : Int32).toInt = 1 → he.toInt = 100 + o.toInt ∧ si.toInt = n.toInt ∧ ∀ k : Nat, k < 160 → fe k = 0) from by (have k9 : ((-1) : Int32).toInt = -1 := (by decide); intro h; exfalso; omega)), (show (((-1) : Int32).toInt ≠ 1 → he = he ∧ si = si ∧ fe = fe) from by (have k9 : ((-1) : Int32).toInt = -1 := (by decide); intro h; exact ⟨rfl, rfl, rfl⟩)), trivial⟩, zRet ht hP hD [3, 4, 0, 1, 2] (by decide) rfl⟩, hS.F ht⟩) hS.2.2 dX7_row_17
  · refine lv_astoreN (lv' := [(4, .null), (0, .ref x0), (1, .int s_), (2, .int o), (3, .int n)]) hx hb dX7_row_5 hl (by decide) rfl (fun ls hl => ?_)
    refine lv_aloadN hx hb dX7_row_7 (lv_at hl 0 rfl) ?_
    refine lv_ifnonnullN hx hb dX7_row_9 ?_
    refine lv_aload_n hx hb dX7_row_12 rfl (lv_at hl 1 rfl) ?_
    refine lv_iconst (v := 1) hx hb dX7_row_13 (by decide) ?_
    skip
    refine zw_V (As := [.int 1]) (rest := []) (wr := [(xs, .inl (cS, 8, .inr (.inr (.inr (.inr fh))))), (h0, .inr (4, [.ref e0, .int he, .int si])), (e0, .inl (cJ, 160, .inr (.inl fe)))]) ⟨hx, hb, hml, hown, hts⟩ (c_X_refuse_1 l D cI cJ cZ cP cS po x0 xs j0 k0 w0 rd mv xr (im) (lf) fr hy0 hy1 hy2 hy3 H.size) (cwV 1 hts gX7_row_X7_refuse rfl rfl rfl ⟨rfl, dh_X7_refuse⟩ ⟨Nat.le_of_ble_eq_true rfl, Nat.le_of_ble_eq_true rfl⟩) hK hN (hZ.kept hS) hP hD hS hA [0, 1] [2, 3, 4] rfl rfl (by decide) (by decide) (by decide) (va_recv (q := (RX7, TX7, 9)) hK hP (ci := 7) (q0 := 0) rfl rfl) rfl hl.1 rfl (Nat.le_of_ble_eq_true rfl) dX7_row_14 ⟨Nat.le_of_ble_eq_true rfl, Nat.le_of_ble_eq_true rfl⟩ (fun r_10 u_11 H locs hr_10 hP hD hS => ?_)
    obtain ⟨q_12, rfl⟩ : ∃ z, z = u_11 := ⟨_, rfl⟩
    have h9R := zRe (ws' := [(xs, .inl (cS, 8, .inr (.inr (.inr (.inr fh))))), (h0, .inr (4, [.ref e0, .int he, .int si])), (e0, .inl (cJ, 160, .inr (.inl fe))), (x0, .inr (7, [.ref xs, .ref j0, .ref k0, .ref w0, .ref rd, .ref mv, .ref xr, .int im, .int lf])), (xr, .inl (cI, 8, .inl q_12))]) hP hD rfl
    clear hP hD
    obtain ⟨hP, hD⟩ := h9R
    obtain rfl := hr_10
    exact W.iret (v := (-1)) hx hb hr (fun t ht hW => ⟨⟨(-1), (he, si, fe, q_12), rfl, ⟨(show (-1) ≤ he.toInt ∧ he.toInt ≤ 103 from ⟨hy4, hy5⟩), (show 0 ≤ si.toInt ∧ si.toInt ≤ 160 from ⟨hy6, hy7⟩), (show ((-1) : Int32).toInt = zRow s_.toInt o.toInt n.toInt from by (have k9 : ((-1) : Int32).toInt = -1 := (by decide); unfold zRow; (repeat (first | rw [if_pos (by omega)] | rw [if_neg (by omega)])) <;> omega)), (show (((-1) : Int32).toInt = 1 → he.toInt = 100 + o.toInt ∧ si.toInt = n.toInt ∧ ∀ k : Nat, k < 160 → fe k = 0) from by (have k9 : ((-1) : Int32).toInt = -1 := (by decide); intro h; exfalso; omega)), (show (((-1) : Int32).toInt ≠ 1 → he = he ∧ si = si ∧ fe = fe) from by (have k9 : ((-1) : Int32).toInt = -1 := (by decide); intro h; exact ⟨rfl, rfl, rfl⟩)), trivial⟩, zRet ht hP hD [3, 4, 0, 1, 2] (by decide) rfl⟩, hS.F ht⟩) hS.2.2 dX7_row_17
  · rw [hfs (by omega) (by omega)]
    refine W.eq (g2 := F0 m 5 ls (.ref h0 :: [])) rfl ?_
    refine lv_astore (lv' := [(4, .ref h0), (0, .ref x0), (1, .int s_), (2, .int o), (3, .int n)]) hx hb dX7_row_5 hl (by decide) rfl (fun ls hl => ?_)
    refine lv_aload hx hb dX7_row_7 (lv_at hl 0 rfl) ?_
    refine lv_ifnonnull (tgt := 18) hx hb dX7_row_9 (by decide) ?_
    refine lv_iload_n hx hb dX7_row_18 rfl (lv_at hl 4 rfl) ?_
    refine lv_if_ge (tgt := 28) hx hb dX7_row_19 (by decide) (fun c_13 => ?_) (fun c_13 => ?_)
    · have fc_13 : 0 ≤ n.toInt := zf_le c_13 (by decide) rfl
      refine lv_iload_n hx hb dX7_row_28 rfl (lv_at hl 3 rfl) ?_
      refine lv_iconst (v := 0) hx hb dX7_row_29 (by decide) ?_
      refine lv_iconst (v := 3) hx hb dX7_row_30 (by decide) ?_
      have kc0 : (0 : Int32).toInt = 0 := by decide
      have kc3 : (3 : Int32).toInt = 3 := by decide
      refine zc_S (As := [.int o, .int 0, .int 3]) (rest := []) ⟨hx, hb, hml, hown, hts⟩ (c_within l D cI cJ cZ cP cS po (o) (0) (3) ) (va_cwS 3 hts gX7_row_X7_within rfl rfl rfl dh_X7_within ⟨Nat.le_of_ble_eq_true rfl, Nat.le_of_ble_eq_true rfl⟩) hK hN (hZ.kept hS) rfl hl.1 rfl (Nat.le_of_ble_eq_true rfl) dX7_row_31 ⟨Nat.le_of_ble_eq_true rfl, Nat.le_of_ble_eq_true rfl⟩ (fun r_14 hr_14 => ?_)
      rcases hr_14 with ⟨rfl, g_15⟩ | ⟨rfl, g_16, g_17⟩ | ⟨rfl, g_18, g_19⟩
      · refine lv_if_ne (tgt := 44) hx hb dX7_row_34 (by decide) (fun c_20 => ?_) (fun c_20 => ?_)
        · exact absurd c_20 (by decide)
        · refine lv_aload_n hx hb dX7_row_37 rfl (lv_at hl 1 rfl) ?_
          refine lv_bipush (v := 6) hx hb dX7_row_38 (by decide) ?_
          skip
          refine zw_V (As := [.int 6]) (rest := []) (wr := [(xs, .inl (cS, 8, .inr (.inr (.inr (.inr fh))))), (h0, .inr (4, [.ref e0, .int he, .int si])), (e0, .inl (cJ, 160, .inr (.inl fe)))]) ⟨hx, hb, hml, hown, hts⟩ (c_X_refuse_6 l D cI cJ cZ cP cS po x0 xs j0 k0 w0 rd mv xr (im) (lf) fr hy0 hy1 hy2 hy3 H.size) (cwV 1 hts gX7_row_X7_refuse rfl rfl rfl ⟨rfl, dh_X7_refuse⟩ ⟨Nat.le_of_ble_eq_true rfl, Nat.le_of_ble_eq_true rfl⟩) hK hN (hZ.kept hS) hP hD hS hA [0, 1] [2, 3, 4] rfl rfl (by decide) (by decide) (by decide) (va_recv (q := (RX7, TX7, 9)) hK hP (ci := 7) (q0 := 0) rfl rfl) rfl hl.1 rfl (Nat.le_of_ble_eq_true rfl) dX7_row_40 ⟨Nat.le_of_ble_eq_true rfl, Nat.le_of_ble_eq_true rfl⟩ (fun r_21 u_22 H locs hr_21 hP hD hS => ?_)
          obtain ⟨q_23, rfl⟩ : ∃ z, z = u_22 := ⟨_, rfl⟩
          have h9R := zRe (ws' := [(xs, .inl (cS, 8, .inr (.inr (.inr (.inr fh))))), (h0, .inr (4, [.ref e0, .int he, .int si])), (e0, .inl (cJ, 160, .inr (.inl fe))), (x0, .inr (7, [.ref xs, .ref j0, .ref k0, .ref w0, .ref rd, .ref mv, .ref xr, .int im, .int lf])), (xr, .inl (cI, 8, .inl q_23))]) hP hD rfl
          clear hP hD
          obtain ⟨hP, hD⟩ := h9R
          obtain rfl := hr_21
          exact W.iret (v := (-6)) hx hb hr (fun t ht hW => ⟨⟨(-6), (he, si, fe, q_23), rfl, ⟨(show (-1) ≤ he.toInt ∧ he.toInt ≤ 103 from ⟨hy4, hy5⟩), (show 0 ≤ si.toInt ∧ si.toInt ≤ 160 from ⟨hy6, hy7⟩), (show ((-6) : Int32).toInt = zRow s_.toInt o.toInt n.toInt from by (have k9 : ((-6) : Int32).toInt = -6 := (by decide); unfold zRow; (repeat (first | rw [if_pos (by omega)] | rw [if_neg (by omega)])) <;> omega)), (show (((-6) : Int32).toInt = 1 → he.toInt = 100 + o.toInt ∧ si.toInt = n.toInt ∧ ∀ k : Nat, k < 160 → fe k = 0) from by (have k9 : ((-6) : Int32).toInt = -6 := (by decide); intro h; exfalso; omega)), (show (((-6) : Int32).toInt ≠ 1 → he = he ∧ si = si ∧ fe = fe) from by (have k9 : ((-6) : Int32).toInt = -6 := (by decide); intro h; exact ⟨rfl, rfl, rfl⟩)), trivial⟩, zRet ht hP hD [3, 4, 0, 1, 2] (by decide) rfl⟩, hS.F ht⟩) hS.2.2 dX7_row_43
      · refine lv_if_ne (tgt := 44) hx hb dX7_row_34 (by decide) (fun c_24 => ?_) (fun c_24 => ?_)
        · exact absurd c_24 (by decide)
        · refine lv_aload_n hx hb dX7_row_37 rfl (lv_at hl 1 rfl) ?_
          refine lv_bipush (v := 6) hx hb dX7_row_38 (by decide) ?_
          skip
          refine zw_V (As := [.int 6]) (rest := []) (wr := [(xs, .inl (cS, 8, .inr (.inr (.inr (.inr fh))))), (h0, .inr (4, [.ref e0, .int he, .int si])), (e0, .inl (cJ, 160, .inr (.inl fe)))]) ⟨hx, hb, hml, hown, hts⟩ (c_X_refuse_6 l D cI cJ cZ cP cS po x0 xs j0 k0 w0 rd mv xr (im) (lf) fr hy0 hy1 hy2 hy3 H.size) (cwV 1 hts gX7_row_X7_refuse rfl rfl rfl ⟨rfl, dh_X7_refuse⟩ ⟨Nat.le_of_ble_eq_true rfl, Nat.le_of_ble_eq_true rfl⟩) hK hN (hZ.kept hS) hP hD hS hA [0, 1] [2, 3, 4] rfl rfl (by decide) (by decide) (by decide) (va_recv (q := (RX7, TX7, 9)) hK hP (ci := 7) (q0 := 0) rfl rfl) rfl hl.1 rfl (Nat.le_of_ble_eq_true rfl) dX7_row_40 ⟨Nat.le_of_ble_eq_true rfl, Nat.le_of_ble_eq_true rfl⟩ (fun r_25 u_26 H locs hr_25 hP hD hS => ?_)
          obtain ⟨q_27, rfl⟩ : ∃ z, z = u_26 := ⟨_, rfl⟩
          have h9R := zRe (ws' := [(xs, .inl (cS, 8, .inr (.inr (.inr (.inr fh))))), (h0, .inr (4, [.ref e0, .int he, .int si])), (e0, .inl (cJ, 160, .inr (.inl fe))), (x0, .inr (7, [.ref xs, .ref j0, .ref k0, .ref w0, .ref rd, .ref mv, .ref xr, .int im, .int lf])), (xr, .inl (cI, 8, .inl q_27))]) hP hD rfl
          clear hP hD
          obtain ⟨hP, hD⟩ := h9R
          obtain rfl := hr_25
          exact W.iret (v := (-6)) hx hb hr (fun t ht hW => ⟨⟨(-6), (he, si, fe, q_27), rfl, ⟨(show (-1) ≤ he.toInt ∧ he.toInt ≤ 103 from ⟨hy4, hy5⟩), (show 0 ≤ si.toInt ∧ si.toInt ≤ 160 from ⟨hy6, hy7⟩), (show ((-6) : Int32).toInt = zRow s_.toInt o.toInt n.toInt from by (have k9 : ((-6) : Int32).toInt = -6 := (by decide); unfold zRow; (repeat (first | rw [if_pos (by omega)] | rw [if_neg (by omega)])) <;> omega)), (show (((-6) : Int32).toInt = 1 → he.toInt = 100 + o.toInt ∧ si.toInt = n.toInt ∧ ∀ k : Nat, k < 160 → fe k = 0) from by (have k9 : ((-6) : Int32).toInt = -6 := (by decide); intro h; exfalso; omega)), (show (((-6) : Int32).toInt ≠ 1 → he = he ∧ si = si ∧ fe = fe) from by (have k9 : ((-6) : Int32).toInt = -6 := (by decide); intro h; exact ⟨rfl, rfl, rfl⟩)), trivial⟩, zRet ht hP hD [3, 4, 0, 1, 2] (by decide) rfl⟩, hS.F ht⟩) hS.2.2 dX7_row_43
      · refine lv_if_ne (tgt := 44) hx hb dX7_row_34 (by decide) (fun c_28 => ?_) (fun c_28 => ?_)
        · refine lv_iload_n hx hb dX7_row_44 rfl (lv_at hl 4 rfl) ?_
          refine lv_sipush (v := 160) hx hb dX7_row_45 (by decide) ?_
          refine lv_icmp_le (tgt := 58) hx hb dX7_row_48 (by decide) (fun c_29 => ?_) (fun c_29 => ?_)
          · have fc_29 : n.toInt ≤ 160 := zf_le c_29 rfl (by decide)
            refine lv_aload hx hb dX7_row_58 (lv_at hl 0 rfl) ?_
            refine lv_iload_n hx hb dX7_row_60 rfl (lv_at hl 3 rfl) ?_
            refine lv_iload_n hx hb dX7_row_61 rfl (lv_at hl 4 rfl) ?_
            skip
            refine zw_Vv (As := [.int o, .int n]) (rest := []) (wr := [(x0, .inr (7, [.ref xs, .ref j0, .ref k0, .ref w0, .ref rd, .ref mv, .ref xr, .int im, .int lf])), (xr, .inl (cI, 8, .inl fr)), (xs, .inl (cS, 8, .inr (.inr (.inr (.inr fh)))))]) ⟨hx, hb, hml, hown, hts⟩ (c_F_Sh_holdRow l D cI cJ cZ cP cS po h0 e0 (he) (si) fe (o) (n) hy4 hy5 hy6 hy7 (by omega) (by omega) (by omega) (by omega) H.size) (cwV 2 hts gX7_row_X4_holdRow rfl rfl rfl ⟨rfl, dh_X4_holdRow⟩ ⟨Nat.le_of_ble_eq_true rfl, Nat.le_of_ble_eq_true rfl⟩) hK hN (hZ.kept hS) hP hD hS hA [3, 4] [0, 1, 2] rfl rfl (by decide) (by decide) (by decide) (va_recv (q := (RX4, TX4, 3)) hK hP (ci := 4) (q0 := 3) rfl rfl) rfl hl.1 rfl (Nat.le_of_ble_eq_true rfl) dX7_row_62 ⟨Nat.le_of_ble_eq_true rfl, Nat.le_of_ble_eq_true rfl⟩ (fun u_31 H locs hr_30 hP hD hS => ?_)
            obtain ⟨q_32, q_33, q_34⟩ := u_31
            try dsimp only at hr_30
            obtain ⟨hbq_32, hbq_33, hsr_30_0, hsr_30_1, hsr_30_2, hr_30⟩ := hr_30
            have h9R := zRe (ws' := [(x0, .inr (7, [.ref xs, .ref j0, .ref k0, .ref w0, .ref rd, .ref mv, .ref xr, .int im, .int lf])), (xr, .inl (cI, 8, .inl fr)), (xs, .inl (cS, 8, .inr (.inr (.inr (.inr fh))))), (h0, .inr (4, [.ref e0, .int q_32, .int q_33])), (e0, .inl (cJ, 160, .inr (.inl q_34)))]) hP hD rfl
            clear hP hD
            obtain ⟨hP, hD⟩ := h9R
            refine lv_iconst (v := 1) hx hb dX7_row_65 (by decide) ?_
            exact W.iret (v := 1) hx hb hr (fun t ht hW => ⟨⟨1, (q_32, q_33, q_34, fr), rfl, ⟨(show (-1) ≤ q_32.toInt ∧ q_32.toInt ≤ 103 from hbq_32), (show 0 ≤ q_33.toInt ∧ q_33.toInt ≤ 160 from hbq_33), (show (1 : Int32).toInt = zRow s_.toInt o.toInt n.toInt from by (have k9 : (1 : Int32).toInt = 1 := (by decide); unfold zRow; (repeat (first | rw [if_pos (by omega)] | rw [if_neg (by omega)])) <;> omega)), (show ((1 : Int32).toInt = 1 → q_32.toInt = 100 + o.toInt ∧ q_33.toInt = n.toInt ∧ ∀ k : Nat, k < 160 → q_34 k = 0) from by (have k9 : (1 : Int32).toInt = 1 := (by decide); intro h; exact ⟨hsr_30_0, congrArg Int32.toInt hsr_30_1, hsr_30_2⟩)), (show ((1 : Int32).toInt ≠ 1 → q_32 = he ∧ q_33 = si ∧ q_34 = fe) from by (have k9 : (1 : Int32).toInt = 1 := (by decide); intro h; exfalso; omega)), trivial⟩, zRet ht hP hD [0, 1, 2, 3, 4] (by decide) rfl⟩, hS.F ht⟩) hS.2.2 dX7_row_66
          · have fc_29 : 160 < n.toInt := zf_nle c_29 rfl (by decide)
            refine lv_aload_n hx hb dX7_row_51 rfl (lv_at hl 1 rfl) ?_
            refine lv_bipush (v := 7) hx hb dX7_row_52 (by decide) ?_
            skip
            refine zw_V (As := [.int 7]) (rest := []) (wr := [(xs, .inl (cS, 8, .inr (.inr (.inr (.inr fh))))), (h0, .inr (4, [.ref e0, .int he, .int si])), (e0, .inl (cJ, 160, .inr (.inl fe)))]) ⟨hx, hb, hml, hown, hts⟩ (c_X_refuse_7 l D cI cJ cZ cP cS po x0 xs j0 k0 w0 rd mv xr (im) (lf) fr hy0 hy1 hy2 hy3 H.size) (cwV 1 hts gX7_row_X7_refuse rfl rfl rfl ⟨rfl, dh_X7_refuse⟩ ⟨Nat.le_of_ble_eq_true rfl, Nat.le_of_ble_eq_true rfl⟩) hK hN (hZ.kept hS) hP hD hS hA [0, 1] [2, 3, 4] rfl rfl (by decide) (by decide) (by decide) (va_recv (q := (RX7, TX7, 9)) hK hP (ci := 7) (q0 := 0) rfl rfl) rfl hl.1 rfl (Nat.le_of_ble_eq_true rfl) dX7_row_54 ⟨Nat.le_of_ble_eq_true rfl, Nat.le_of_ble_eq_true rfl⟩ (fun r_35 u_36 H locs hr_35 hP hD hS => ?_)
            obtain ⟨q_37, rfl⟩ : ∃ z, z = u_36 := ⟨_, rfl⟩
            have h9R := zRe (ws' := [(xs, .inl (cS, 8, .inr (.inr (.inr (.inr fh))))), (h0, .inr (4, [.ref e0, .int he, .int si])), (e0, .inl (cJ, 160, .inr (.inl fe))), (x0, .inr (7, [.ref xs, .ref j0, .ref k0, .ref w0, .ref rd, .ref mv, .ref xr, .int im, .int lf])), (xr, .inl (cI, 8, .inl q_37))]) hP hD rfl
            clear hP hD
            obtain ⟨hP, hD⟩ := h9R
            obtain rfl := hr_35
            exact W.iret (v := (-7)) hx hb hr (fun t ht hW => ⟨⟨(-7), (he, si, fe, q_37), rfl, ⟨(show (-1) ≤ he.toInt ∧ he.toInt ≤ 103 from ⟨hy4, hy5⟩), (show 0 ≤ si.toInt ∧ si.toInt ≤ 160 from ⟨hy6, hy7⟩), (show ((-7) : Int32).toInt = zRow s_.toInt o.toInt n.toInt from by (have k9 : ((-7) : Int32).toInt = -7 := (by decide); unfold zRow; (repeat (first | rw [if_pos (by omega)] | rw [if_neg (by omega)])) <;> omega)), (show (((-7) : Int32).toInt = 1 → he.toInt = 100 + o.toInt ∧ si.toInt = n.toInt ∧ ∀ k : Nat, k < 160 → fe k = 0) from by (have k9 : ((-7) : Int32).toInt = -7 := (by decide); intro h; exfalso; omega)), (show (((-7) : Int32).toInt ≠ 1 → he = he ∧ si = si ∧ fe = fe) from by (have k9 : ((-7) : Int32).toInt = -7 := (by decide); intro h; exact ⟨rfl, rfl, rfl⟩)), trivial⟩, zRet ht hP hD [3, 4, 0, 1, 2] (by decide) rfl⟩, hS.F ht⟩) hS.2.2 dX7_row_57
        · exact absurd c_28 (by decide)
    · have fc_13 : n.toInt < 0 := zf_nle c_13 (by decide) rfl
      refine lv_aload_n hx hb dX7_row_22 rfl (lv_at hl 1 rfl) ?_
      refine lv_iconst (v := 4) hx hb dX7_row_23 (by decide) ?_
      skip
      refine zw_V (As := [.int 4]) (rest := []) (wr := [(xs, .inl (cS, 8, .inr (.inr (.inr (.inr fh))))), (h0, .inr (4, [.ref e0, .int he, .int si])), (e0, .inl (cJ, 160, .inr (.inl fe)))]) ⟨hx, hb, hml, hown, hts⟩ (c_X_refuse_4 l D cI cJ cZ cP cS po x0 xs j0 k0 w0 rd mv xr (im) (lf) fr hy0 hy1 hy2 hy3 H.size) (cwV 1 hts gX7_row_X7_refuse rfl rfl rfl ⟨rfl, dh_X7_refuse⟩ ⟨Nat.le_of_ble_eq_true rfl, Nat.le_of_ble_eq_true rfl⟩) hK hN (hZ.kept hS) hP hD hS hA [0, 1] [2, 3, 4] rfl rfl (by decide) (by decide) (by decide) (va_recv (q := (RX7, TX7, 9)) hK hP (ci := 7) (q0 := 0) rfl rfl) rfl hl.1 rfl (Nat.le_of_ble_eq_true rfl) dX7_row_24 ⟨Nat.le_of_ble_eq_true rfl, Nat.le_of_ble_eq_true rfl⟩ (fun r_38 u_39 H locs hr_38 hP hD hS => ?_)
      obtain ⟨q_40, rfl⟩ : ∃ z, z = u_39 := ⟨_, rfl⟩
      have h9R := zRe (ws' := [(xs, .inl (cS, 8, .inr (.inr (.inr (.inr fh))))), (h0, .inr (4, [.ref e0, .int he, .int si])), (e0, .inl (cJ, 160, .inr (.inl fe))), (x0, .inr (7, [.ref xs, .ref j0, .ref k0, .ref w0, .ref rd, .ref mv, .ref xr, .int im, .int lf])), (xr, .inl (cI, 8, .inl q_40))]) hP hD rfl
      clear hP hD
      obtain ⟨hP, hD⟩ := h9R
      obtain rfl := hr_38
      exact W.iret (v := (-4)) hx hb hr (fun t ht hW => ⟨⟨(-4), (he, si, fe, q_40), rfl, ⟨(show (-1) ≤ he.toInt ∧ he.toInt ≤ 103 from ⟨hy4, hy5⟩), (show 0 ≤ si.toInt ∧ si.toInt ≤ 160 from ⟨hy6, hy7⟩), (show ((-4) : Int32).toInt = zRow s_.toInt o.toInt n.toInt from by (have k9 : ((-4) : Int32).toInt = -4 := (by decide); unfold zRow; (repeat (first | rw [if_pos (by omega)] | rw [if_neg (by omega)])) <;> omega)), (show (((-4) : Int32).toInt = 1 → he.toInt = 100 + o.toInt ∧ si.toInt = n.toInt ∧ ∀ k : Nat, k < 160 → fe k = 0) from by (have k9 : ((-4) : Int32).toInt = -4 := (by decide); intro h; exfalso; omega)), (show (((-4) : Int32).toInt ≠ 1 → he = he ∧ si = si ∧ fe = fe) from by (have k9 : ((-4) : Int32).toInt = -4 := (by decide); intro h; exact ⟨rfl, rfl, rfl⟩)), trivial⟩, zRet ht hP hD [3, 4, 0, 1, 2] (by decide) rfl⟩, hS.F ht⟩) hS.2.2 dX7_row_27
set_option maxHeartbeats 4000000 in
set_option maxRecDepth 100000 in
theorem c_F_X_set (l : Launch) (D : va_G) (cI cJ cZ cP cS : ClassId) (po : zPool) (x0 xs j0 k0 w0 rd mv xr : Nat) (im lf : Int32) (fr : Nat → Int32) (fh : Nat → Option Nat) (s_ : Int32) (h0 e0 : Nat) (he si : Int32) (fe : Nat → Int64) (i : Int32) (v : Int64) (hy0 : 0 ≤ im.toInt) (hy1 : im.toInt ≤ 1) (hy2 : (-1) ≤ lf.toInt) (hy3 : lf.toInt ≤ 160) (hy4 : (-1) ≤ he.toInt) (hy5 : he.toInt ≤ 103) (hy6 : 0 ≤ si.toInt) (hy7 : si.toInt ≤ 160) (hfs : 0 ≤ s_.toInt → s_.toInt ≤ 7 → fh s_.toNatClampNeg = some h0) (hpz : Nat) : Met l yX7_set wsX7_set ({ frames := 2, cells := 0, slots := 0, locals := 43 }) (va_Pc [.ref x0, .int s_, .int i, .long v] (zW D (zKT cI cJ cZ cP cS) po [(x0, .inr (7, [.ref xs, .ref j0, .ref k0, .ref w0, .ref rd, .ref mv, .ref xr, .int im, .int lf])), (xr, .inl (cI, 8, .inl fr)), (xs, .inl (cS, 8, .inr (.inr (.inr (.inr fh))))), (h0, .inr (4, [.ref e0, .int he, .int si])), (e0, .inl (cJ, 160, .inr (.inl fe)))] hpz)) (va_Qi (fun (r : Int32) (u : (Nat → Int64) × (Nat → Int32)) => (r.toInt = zSetR s_.toInt he.toInt si.toInt i.toInt) ∧ ((r.toInt = 1 → u.1 = vp_updL fe i.toNatClampNeg (zNar (he.toInt - 100) v))) ∧ ((r.toInt ≠ 1 → u.1 = fe)) ∧ (True)) (zB D [(x0, .inr (7, [.ref xs, .ref j0, .ref k0, .ref w0, .ref rd, .ref mv, .ref xr, .int im, .int lf])), (xr, .inl (cI, 8, .inl fr)), (xs, .inl (cS, 8, .inr (.inr (.inr (.inr fh))))), (h0, .inr (4, [.ref e0, .int he, .int si])), (e0, .inl (cJ, 160, .inr (.inl fe)))] hpz (fun (u : (Nat → Int64) × (Nat → Int32)) => [(x0, .inr (7, [.ref xs, .ref j0, .ref k0, .ref w0, .ref rd, .ref mv, .ref xr, .int im, .int lf])), (xr, .inl (cI, 8, .inl u.2)), (xs, .inl (cS, 8, .inr (.inr (.inr (.inr fh))))), (h0, .inr (4, [.ref e0, .int he, .int si])), (e0, .inl (cJ, 160, .inr (.inl u.1)))])) (va_A [(x0, .inr (7, [.ref xs, .ref j0, .ref k0, .ref w0, .ref rd, .ref mv, .ref xr, .int im, .int lf])), (xr, .inl (cI, 8, .inl fr)), (xs, .inl (cS, 8, .inr (.inr (.inr (.inr fh))))), (h0, .inr (4, [.ref e0, .int he, .int si])), (e0, .inl (cJ, 160, .inr (.inl fe)))] hpz)) 0 0 (va_A [(x0, .inr (7, [.ref xs, .ref j0, .ref k0, .ref w0, .ref rd, .ref mv, .ref xr, .int im, .int lf])), (xr, .inl (cI, 8, .inl fr)), (xs, .inl (cS, 8, .inr (.inr (.inr (.inr fh))))), (h0, .inr (4, [.ref e0, .int he, .int si])), (e0, .inl (cJ, 160, .inr (.inl fe)))] hpz) := by
  refine Met.ofW (cc := cX7_set) (maxL := 7) (ret := (some .int)) (by decide) rfl ?_
  intro p e s m args below meth c s₁ B hml hv
  obtain ⟨rfl, hsz, hP, hK, hD0, hN, hZ⟩ := hv
  have hx := B.exec
  have hb := B.bytes
  have hr := B.returns
  have hts := atoms_spec (ws := wsX7_set) B.pre
  have hown : s.vm.findClass RX7 = some m.cls := findClass_of_methodNamed B.named
  have hlocks := B.notSynchronized
  subst hsz
  have hD := hD0.self (sz := s.heap.size)
  have hA := zA_of hD
  have hl := lv_entry ([.ref x0, .int s_, .int i, .long v]) (n := 7) (Nat.le_of_ble_eq_true rfl)
  rw [lg_entry_eq]
  generalize (lg_sl ([.ref x0, .int s_, .int i, .long v]) ++ List.replicate (7 - (lg_sl ([.ref x0, .int s_, .int i, .long v])).length) Slot.unset).toArray = ls at hl ⊢
  replace hl : lv_has ls 7 [(0, .ref x0), (1, .int s_), (2, .int i), (3, .long v)] := hl
  refine zw_begin hP hD (fun H locs hP1 hS => ?_)
  clear hP
  have hP := hP1
  clear hP1
  refine lv_aload_n hx hb dX7_set_0 rfl (lv_at hl 0 rfl) ?_
  refine lv_iload_n hx hb dX7_set_1 rfl (lv_at hl 1 rfl) ?_
  refine zc_Vq (As := [.int s_]) (rest := []) ⟨hx, hb, hml, hown, hts⟩ (c_X_shelfAt l D cI cJ cZ cP cS po x0 xs j0 k0 w0 rd mv xr (im) (lf) ((fun _ => 0)) fh (s_) hy0 hy1 hy2 hy3) (cwV 1 hts gX7_set_X7_shelfAt rfl rfl rfl ⟨rfl, dh_X7_shelfAt⟩ ⟨Nat.le_of_ble_eq_true rfl, Nat.le_of_ble_eq_true rfl⟩) hK hN (hZ.kept hS) hP (hP.sub [0, 2] rfl) (va_recv (q := (RX7, TX7, 9)) hK hP (ci := 7) (q0 := 0) rfl rfl) rfl hl.1 rfl (Nat.le_of_ble_eq_true rfl) dX7_set_2 ⟨Nat.le_of_ble_eq_true rfl, Nat.le_of_ble_eq_true rfl⟩ (fun r_1 hr_1 => ?_)
  rcases hr_1 with ⟨rfl, g_2⟩ | ⟨rfl, g_3, g_4⟩ | ⟨rfl, g_5, g_6⟩
  · refine lv_astoreN (lv' := [(5, .null), (0, .ref x0), (1, .int s_), (2, .int i), (3, .long v)]) hx hb dX7_set_5 hl (by decide) rfl (fun ls hl => ?_)
    refine lv_aloadN hx hb dX7_set_7 (lv_at hl 0 rfl) ?_
    refine lv_ifnonnullN hx hb dX7_set_9 ?_
    refine lv_aload_n hx hb dX7_set_12 rfl (lv_at hl 1 rfl) ?_
    refine lv_iconst (v := 1) hx hb dX7_set_13 (by decide) ?_
    skip
    refine zw_V (As := [.int 1]) (rest := []) (wr := [(xs, .inl (cS, 8, .inr (.inr (.inr (.inr fh))))), (h0, .inr (4, [.ref e0, .int he, .int si])), (e0, .inl (cJ, 160, .inr (.inl fe)))]) ⟨hx, hb, hml, hown, hts⟩ (c_X_refuse_1 l D cI cJ cZ cP cS po x0 xs j0 k0 w0 rd mv xr (im) (lf) fr hy0 hy1 hy2 hy3 H.size) (cwV 1 hts gX7_set_X7_refuse rfl rfl rfl ⟨rfl, dh_X7_refuse⟩ ⟨Nat.le_of_ble_eq_true rfl, Nat.le_of_ble_eq_true rfl⟩) hK hN (hZ.kept hS) hP hD hS hA [0, 1] [2, 3, 4] rfl rfl (by decide) (by decide) (by decide) (va_recv (q := (RX7, TX7, 9)) hK hP (ci := 7) (q0 := 0) rfl rfl) rfl hl.1 rfl (Nat.le_of_ble_eq_true rfl) dX7_set_14 ⟨Nat.le_of_ble_eq_true rfl, Nat.le_of_ble_eq_true rfl⟩ (fun r_7 u_8 H locs hr_7 hP hD hS => ?_)
    obtain ⟨q_9, rfl⟩ : ∃ z, z = u_8 := ⟨_, rfl⟩
    have h9R := zRe (ws' := [(xs, .inl (cS, 8, .inr (.inr (.inr (.inr fh))))), (h0, .inr (4, [.ref e0, .int he, .int si])), (e0, .inl (cJ, 160, .inr (.inl fe))), (x0, .inr (7, [.ref xs, .ref j0, .ref k0, .ref w0, .ref rd, .ref mv, .ref xr, .int im, .int lf])), (xr, .inl (cI, 8, .inl q_9))]) hP hD rfl
    clear hP hD
    obtain ⟨hP, hD⟩ := h9R
    obtain rfl := hr_7
    exact W.iret (v := (-1)) hx hb hr (fun t ht hW => ⟨⟨(-1), (fe, q_9), rfl, ⟨(show ((-1) : Int32).toInt = zSetR s_.toInt he.toInt si.toInt i.toInt from by (have k9 : ((-1) : Int32).toInt = -1 := (by decide); unfold zSetR; (repeat (first | rw [if_pos (by omega)] | rw [if_neg (by omega)])) <;> omega)), (show (((-1) : Int32).toInt = 1 → fe = vp_updL fe i.toNatClampNeg (zNar (he.toInt - 100) v)) from by (have k9 : ((-1) : Int32).toInt = -1 := (by decide); intro h; exfalso; omega)), (show (((-1) : Int32).toInt ≠ 1 → fe = fe) from by (have k9 : ((-1) : Int32).toInt = -1 := (by decide); intro h; exact rfl)), trivial⟩, zRet ht hP hD [3, 4, 0, 1, 2] (by decide) rfl⟩, hS.F ht⟩) hS.2.2 dX7_set_17
  · refine lv_astoreN (lv' := [(5, .null), (0, .ref x0), (1, .int s_), (2, .int i), (3, .long v)]) hx hb dX7_set_5 hl (by decide) rfl (fun ls hl => ?_)
    refine lv_aloadN hx hb dX7_set_7 (lv_at hl 0 rfl) ?_
    refine lv_ifnonnullN hx hb dX7_set_9 ?_
    refine lv_aload_n hx hb dX7_set_12 rfl (lv_at hl 1 rfl) ?_
    refine lv_iconst (v := 1) hx hb dX7_set_13 (by decide) ?_
    skip
    refine zw_V (As := [.int 1]) (rest := []) (wr := [(xs, .inl (cS, 8, .inr (.inr (.inr (.inr fh))))), (h0, .inr (4, [.ref e0, .int he, .int si])), (e0, .inl (cJ, 160, .inr (.inl fe)))]) ⟨hx, hb, hml, hown, hts⟩ (c_X_refuse_1 l D cI cJ cZ cP cS po x0 xs j0 k0 w0 rd mv xr (im) (lf) fr hy0 hy1 hy2 hy3 H.size) (cwV 1 hts gX7_set_X7_refuse rfl rfl rfl ⟨rfl, dh_X7_refuse⟩ ⟨Nat.le_of_ble_eq_true rfl, Nat.le_of_ble_eq_true rfl⟩) hK hN (hZ.kept hS) hP hD hS hA [0, 1] [2, 3, 4] rfl rfl (by decide) (by decide) (by decide) (va_recv (q := (RX7, TX7, 9)) hK hP (ci := 7) (q0 := 0) rfl rfl) rfl hl.1 rfl (Nat.le_of_ble_eq_true rfl) dX7_set_14 ⟨Nat.le_of_ble_eq_true rfl, Nat.le_of_ble_eq_true rfl⟩ (fun r_10 u_11 H locs hr_10 hP hD hS => ?_)
    obtain ⟨q_12, rfl⟩ : ∃ z, z = u_11 := ⟨_, rfl⟩
    have h9R := zRe (ws' := [(xs, .inl (cS, 8, .inr (.inr (.inr (.inr fh))))), (h0, .inr (4, [.ref e0, .int he, .int si])), (e0, .inl (cJ, 160, .inr (.inl fe))), (x0, .inr (7, [.ref xs, .ref j0, .ref k0, .ref w0, .ref rd, .ref mv, .ref xr, .int im, .int lf])), (xr, .inl (cI, 8, .inl q_12))]) hP hD rfl
    clear hP hD
    obtain ⟨hP, hD⟩ := h9R
    obtain rfl := hr_10
    exact W.iret (v := (-1)) hx hb hr (fun t ht hW => ⟨⟨(-1), (fe, q_12), rfl, ⟨(show ((-1) : Int32).toInt = zSetR s_.toInt he.toInt si.toInt i.toInt from by (have k9 : ((-1) : Int32).toInt = -1 := (by decide); unfold zSetR; (repeat (first | rw [if_pos (by omega)] | rw [if_neg (by omega)])) <;> omega)), (show (((-1) : Int32).toInt = 1 → fe = vp_updL fe i.toNatClampNeg (zNar (he.toInt - 100) v)) from by (have k9 : ((-1) : Int32).toInt = -1 := (by decide); intro h; exfalso; omega)), (show (((-1) : Int32).toInt ≠ 1 → fe = fe) from by (have k9 : ((-1) : Int32).toInt = -1 := (by decide); intro h; exact rfl)), trivial⟩, zRet ht hP hD [3, 4, 0, 1, 2] (by decide) rfl⟩, hS.F ht⟩) hS.2.2 dX7_set_17
  · rw [hfs (by omega) (by omega)]
    refine W.eq (g2 := F0 m 5 ls (.ref h0 :: [])) rfl ?_
    refine lv_astore (lv' := [(5, .ref h0), (0, .ref x0), (1, .int s_), (2, .int i), (3, .long v)]) hx hb dX7_set_5 hl (by decide) rfl (fun ls hl => ?_)
    refine lv_aload hx hb dX7_set_7 (lv_at hl 0 rfl) ?_
    refine lv_ifnonnull (tgt := 18) hx hb dX7_set_9 (by decide) ?_
    refine lv_aload hx hb dX7_set_18 (lv_at hl 0 rfl) ?_
    refine zc_V (As := []) (rest := []) ⟨hx, hb, hml, hown, hts⟩ (c_Sh_noRow l D cI cJ cZ cP cS po h0 e0 (he) (si) hy4 hy5 hy6 hy7) (cwV 0 hts gX7_set_X4_noRow rfl rfl rfl ⟨rfl, dh_X4_noRow⟩ ⟨Nat.le_of_ble_eq_true rfl, Nat.le_of_ble_eq_true rfl⟩) hK hN (hZ.kept hS) hP (hP.sub [3] rfl) (va_recv (q := (RX4, TX4, 3)) hK hP (ci := 4) (q0 := 3) rfl rfl) rfl hl.1 rfl (Nat.le_of_ble_eq_true rfl) dX7_set_20 ⟨Nat.le_of_ble_eq_true rfl, Nat.le_of_ble_eq_true rfl⟩ (fun r_13 hr_13 => ?_)
    rcases hr_13 with ⟨rfl, g_14, g_15⟩ | ⟨rfl, g_16, g_17⟩ | ⟨rfl, g_18⟩
    · refine lv_istore (lv' := [(6, .int 2), (5, .ref h0), (0, .ref x0), (1, .int s_), (2, .int i), (3, .long v)]) hx hb dX7_set_23 hl (by decide) rfl (fun ls hl => ?_)
      refine lv_iload hx hb dX7_set_25 (lv_at hl 0 rfl) ?_
      refine lv_if_eq (tgt := 37) hx hb dX7_set_27 (by decide) (fun c_19 => ?_) (fun c_19 => ?_)
      · exact absurd c_19 (by decide)
      · refine lv_aload_n hx hb dX7_set_30 rfl (lv_at hl 2 rfl) ?_
        refine lv_iload hx hb dX7_set_31 (lv_at hl 0 rfl) ?_
        skip
        refine zw_V (As := [.int 2]) (rest := []) (wr := [(xs, .inl (cS, 8, .inr (.inr (.inr (.inr fh))))), (h0, .inr (4, [.ref e0, .int he, .int si])), (e0, .inl (cJ, 160, .inr (.inl fe)))]) ⟨hx, hb, hml, hown, hts⟩ (c_X_refuse_2 l D cI cJ cZ cP cS po x0 xs j0 k0 w0 rd mv xr (im) (lf) fr hy0 hy1 hy2 hy3 H.size) (cwV 1 hts gX7_set_X7_refuse rfl rfl rfl ⟨rfl, dh_X7_refuse⟩ ⟨Nat.le_of_ble_eq_true rfl, Nat.le_of_ble_eq_true rfl⟩) hK hN (hZ.kept hS) hP hD hS hA [0, 1] [2, 3, 4] rfl rfl (by decide) (by decide) (by decide) (va_recv (q := (RX7, TX7, 9)) hK hP (ci := 7) (q0 := 0) rfl rfl) rfl hl.1 rfl (Nat.le_of_ble_eq_true rfl) dX7_set_33 ⟨Nat.le_of_ble_eq_true rfl, Nat.le_of_ble_eq_true rfl⟩ (fun r_20 u_21 H locs hr_20 hP hD hS => ?_)
        obtain ⟨q_22, rfl⟩ : ∃ z, z = u_21 := ⟨_, rfl⟩
        have h9R := zRe (ws' := [(xs, .inl (cS, 8, .inr (.inr (.inr (.inr fh))))), (h0, .inr (4, [.ref e0, .int he, .int si])), (e0, .inl (cJ, 160, .inr (.inl fe))), (x0, .inr (7, [.ref xs, .ref j0, .ref k0, .ref w0, .ref rd, .ref mv, .ref xr, .int im, .int lf])), (xr, .inl (cI, 8, .inl q_22))]) hP hD rfl
        clear hP hD
        obtain ⟨hP, hD⟩ := h9R
        obtain rfl := hr_20
        exact W.iret (v := (-2)) hx hb hr (fun t ht hW => ⟨⟨(-2), (fe, q_22), rfl, ⟨(show ((-2) : Int32).toInt = zSetR s_.toInt he.toInt si.toInt i.toInt from by (have k9 : ((-2) : Int32).toInt = -2 := (by decide); unfold zSetR; (repeat (first | rw [if_pos (by omega)] | rw [if_neg (by omega)])) <;> omega)), (show (((-2) : Int32).toInt = 1 → fe = vp_updL fe i.toNatClampNeg (zNar (he.toInt - 100) v)) from by (have k9 : ((-2) : Int32).toInt = -2 := (by decide); intro h; exfalso; omega)), (show (((-2) : Int32).toInt ≠ 1 → fe = fe) from by (have k9 : ((-2) : Int32).toInt = -2 := (by decide); intro h; exact rfl)), trivial⟩, zRet ht hP hD [3, 4, 0, 1, 2] (by decide) rfl⟩, hS.F ht⟩) hS.2.2 dX7_set_36
    · refine lv_istore (lv' := [(6, .int 3), (5, .ref h0), (0, .ref x0), (1, .int s_), (2, .int i), (3, .long v)]) hx hb dX7_set_23 hl (by decide) rfl (fun ls hl => ?_)
      refine lv_iload hx hb dX7_set_25 (lv_at hl 0 rfl) ?_
      refine lv_if_eq (tgt := 37) hx hb dX7_set_27 (by decide) (fun c_23 => ?_) (fun c_23 => ?_)
      · exact absurd c_23 (by decide)
      · refine lv_aload_n hx hb dX7_set_30 rfl (lv_at hl 2 rfl) ?_
        refine lv_iload hx hb dX7_set_31 (lv_at hl 0 rfl) ?_
        skip
        refine zw_V (As := [.int 3]) (rest := []) (wr := [(xs, .inl (cS, 8, .inr (.inr (.inr (.inr fh))))), (h0, .inr (4, [.ref e0, .int he, .int si])), (e0, .inl (cJ, 160, .inr (.inl fe)))]) ⟨hx, hb, hml, hown, hts⟩ (c_X_refuse_3 l D cI cJ cZ cP cS po x0 xs j0 k0 w0 rd mv xr (im) (lf) fr hy0 hy1 hy2 hy3 H.size) (cwV 1 hts gX7_set_X7_refuse rfl rfl rfl ⟨rfl, dh_X7_refuse⟩ ⟨Nat.le_of_ble_eq_true rfl, Nat.le_of_ble_eq_true rfl⟩) hK hN (hZ.kept hS) hP hD hS hA [0, 1] [2, 3, 4] rfl rfl (by decide) (by decide) (by decide) (va_recv (q := (RX7, TX7, 9)) hK hP (ci := 7) (q0 := 0) rfl rfl) rfl hl.1 rfl (Nat.le_of_ble_eq_true rfl) dX7_set_33 ⟨Nat.le_of_ble_eq_true rfl, Nat.le_of_ble_eq_true rfl⟩ (fun r_24 u_25 H locs hr_24 hP hD hS => ?_)
        obtain ⟨q_26, rfl⟩ : ∃ z, z = u_25 := ⟨_, rfl⟩
        have h9R := zRe (ws' := [(xs, .inl (cS, 8, .inr (.inr (.inr (.inr fh))))), (h0, .inr (4, [.ref e0, .int he, .int si])), (e0, .inl (cJ, 160, .inr (.inl fe))), (x0, .inr (7, [.ref xs, .ref j0, .ref k0, .ref w0, .ref rd, .ref mv, .ref xr, .int im, .int lf])), (xr, .inl (cI, 8, .inl q_26))]) hP hD rfl
        clear hP hD
        obtain ⟨hP, hD⟩ := h9R
        obtain rfl := hr_24
        exact W.iret (v := (-3)) hx hb hr (fun t ht hW => ⟨⟨(-3), (fe, q_26), rfl, ⟨(show ((-3) : Int32).toInt = zSetR s_.toInt he.toInt si.toInt i.toInt from by (have k9 : ((-3) : Int32).toInt = -3 := (by decide); unfold zSetR; (repeat (first | rw [if_pos (by omega)] | rw [if_neg (by omega)])) <;> omega)), (show (((-3) : Int32).toInt = 1 → fe = vp_updL fe i.toNatClampNeg (zNar (he.toInt - 100) v)) from by (have k9 : ((-3) : Int32).toInt = -3 := (by decide); intro h; exfalso; omega)), (show (((-3) : Int32).toInt ≠ 1 → fe = fe) from by (have k9 : ((-3) : Int32).toInt = -3 := (by decide); intro h; exact rfl)), trivial⟩, zRet ht hP hD [3, 4, 0, 1, 2] (by decide) rfl⟩, hS.F ht⟩) hS.2.2 dX7_set_36
    · refine lv_istore (lv' := [(6, .int 0), (5, .ref h0), (0, .ref x0), (1, .int s_), (2, .int i), (3, .long v)]) hx hb dX7_set_23 hl (by decide) rfl (fun ls hl => ?_)
      refine lv_iload hx hb dX7_set_25 (lv_at hl 0 rfl) ?_
      refine lv_if_eq (tgt := 37) hx hb dX7_set_27 (by decide) (fun c_27 => ?_) (fun c_27 => ?_)
      · refine lv_aload hx hb dX7_set_37 (lv_at hl 1 rfl) ?_
        refine lv_iload_n hx hb dX7_set_39 rfl (lv_at hl 4 rfl) ?_
        refine lv_iconst (v := 1) hx hb dX7_set_40 (by decide) ?_
        have kc1 : (1 : Int32).toInt = 1 := by decide
        refine zc_V (As := [.int i, .int 1]) (rest := []) ⟨hx, hb, hml, hown, hts⟩ (c_Sh_hasSpan l D cI cJ cZ cP cS po h0 e0 (he) (si) (i) (1) hy4 hy5 hy6 hy7) (cwV 2 hts gX7_set_X4_hasSpan rfl rfl rfl ⟨rfl, dh_X4_hasSpan⟩ ⟨Nat.le_of_ble_eq_true rfl, Nat.le_of_ble_eq_true rfl⟩) hK hN (hZ.kept hS) hP (hP.sub [3] rfl) (va_recv (q := (RX4, TX4, 3)) hK hP (ci := 4) (q0 := 3) rfl rfl) rfl hl.1 rfl (Nat.le_of_ble_eq_true rfl) dX7_set_41 ⟨Nat.le_of_ble_eq_true rfl, Nat.le_of_ble_eq_true rfl⟩ (fun r_28 hr_28 => ?_)
        rcases hr_28 with ⟨rfl, g_29⟩ | ⟨rfl, g_30, g_31⟩ | ⟨rfl, g_32, g_33, g_34⟩ | ⟨rfl, g_35, g_36, g_37, g_38⟩ | ⟨rfl, g_39, g_40, g_41, g_42⟩
        · refine lv_if_ne (tgt := 53) hx hb dX7_set_44 (by decide) (fun c_43 => ?_) (fun c_43 => ?_)
          · exact absurd c_43 (by decide)
          · refine lv_aload_n hx hb dX7_set_47 rfl (lv_at hl 2 rfl) ?_
            refine lv_iconst (v := 5) hx hb dX7_set_48 (by decide) ?_
            skip
            refine zw_V (As := [.int 5]) (rest := []) (wr := [(xs, .inl (cS, 8, .inr (.inr (.inr (.inr fh))))), (h0, .inr (4, [.ref e0, .int he, .int si])), (e0, .inl (cJ, 160, .inr (.inl fe)))]) ⟨hx, hb, hml, hown, hts⟩ (c_X_refuse_5 l D cI cJ cZ cP cS po x0 xs j0 k0 w0 rd mv xr (im) (lf) fr hy0 hy1 hy2 hy3 H.size) (cwV 1 hts gX7_set_X7_refuse rfl rfl rfl ⟨rfl, dh_X7_refuse⟩ ⟨Nat.le_of_ble_eq_true rfl, Nat.le_of_ble_eq_true rfl⟩) hK hN (hZ.kept hS) hP hD hS hA [0, 1] [2, 3, 4] rfl rfl (by decide) (by decide) (by decide) (va_recv (q := (RX7, TX7, 9)) hK hP (ci := 7) (q0 := 0) rfl rfl) rfl hl.1 rfl (Nat.le_of_ble_eq_true rfl) dX7_set_49 ⟨Nat.le_of_ble_eq_true rfl, Nat.le_of_ble_eq_true rfl⟩ (fun r_44 u_45 H locs hr_44 hP hD hS => ?_)
            obtain ⟨q_46, rfl⟩ : ∃ z, z = u_45 := ⟨_, rfl⟩
            have h9R := zRe (ws' := [(xs, .inl (cS, 8, .inr (.inr (.inr (.inr fh))))), (h0, .inr (4, [.ref e0, .int he, .int si])), (e0, .inl (cJ, 160, .inr (.inl fe))), (x0, .inr (7, [.ref xs, .ref j0, .ref k0, .ref w0, .ref rd, .ref mv, .ref xr, .int im, .int lf])), (xr, .inl (cI, 8, .inl q_46))]) hP hD rfl
            clear hP hD
            obtain ⟨hP, hD⟩ := h9R
            obtain rfl := hr_44
            exact W.iret (v := (-5)) hx hb hr (fun t ht hW => ⟨⟨(-5), (fe, q_46), rfl, ⟨(show ((-5) : Int32).toInt = zSetR s_.toInt he.toInt si.toInt i.toInt from by (have k9 : ((-5) : Int32).toInt = -5 := (by decide); unfold zSetR; (repeat (first | rw [if_pos (by omega)] | rw [if_neg (by omega)])) <;> omega)), (show (((-5) : Int32).toInt = 1 → fe = vp_updL fe i.toNatClampNeg (zNar (he.toInt - 100) v)) from by (have k9 : ((-5) : Int32).toInt = -5 := (by decide); intro h; exfalso; omega)), (show (((-5) : Int32).toInt ≠ 1 → fe = fe) from by (have k9 : ((-5) : Int32).toInt = -5 := (by decide); intro h; exact rfl)), trivial⟩, zRet ht hP hD [3, 4, 0, 1, 2] (by decide) rfl⟩, hS.F ht⟩) hS.2.2 dX7_set_52
        · exfalso; omega
        · refine lv_if_ne (tgt := 53) hx hb dX7_set_44 (by decide) (fun c_47 => ?_) (fun c_47 => ?_)
          · exact absurd c_47 (by decide)
          · refine lv_aload_n hx hb dX7_set_47 rfl (lv_at hl 2 rfl) ?_
            refine lv_iconst (v := 5) hx hb dX7_set_48 (by decide) ?_
            skip
            refine zw_V (As := [.int 5]) (rest := []) (wr := [(xs, .inl (cS, 8, .inr (.inr (.inr (.inr fh))))), (h0, .inr (4, [.ref e0, .int he, .int si])), (e0, .inl (cJ, 160, .inr (.inl fe)))]) ⟨hx, hb, hml, hown, hts⟩ (c_X_refuse_5 l D cI cJ cZ cP cS po x0 xs j0 k0 w0 rd mv xr (im) (lf) fr hy0 hy1 hy2 hy3 H.size) (cwV 1 hts gX7_set_X7_refuse rfl rfl rfl ⟨rfl, dh_X7_refuse⟩ ⟨Nat.le_of_ble_eq_true rfl, Nat.le_of_ble_eq_true rfl⟩) hK hN (hZ.kept hS) hP hD hS hA [0, 1] [2, 3, 4] rfl rfl (by decide) (by decide) (by decide) (va_recv (q := (RX7, TX7, 9)) hK hP (ci := 7) (q0 := 0) rfl rfl) rfl hl.1 rfl (Nat.le_of_ble_eq_true rfl) dX7_set_49 ⟨Nat.le_of_ble_eq_true rfl, Nat.le_of_ble_eq_true rfl⟩ (fun r_48 u_49 H locs hr_48 hP hD hS => ?_)
            obtain ⟨q_50, rfl⟩ : ∃ z, z = u_49 := ⟨_, rfl⟩
            have h9R := zRe (ws' := [(xs, .inl (cS, 8, .inr (.inr (.inr (.inr fh))))), (h0, .inr (4, [.ref e0, .int he, .int si])), (e0, .inl (cJ, 160, .inr (.inl fe))), (x0, .inr (7, [.ref xs, .ref j0, .ref k0, .ref w0, .ref rd, .ref mv, .ref xr, .int im, .int lf])), (xr, .inl (cI, 8, .inl q_50))]) hP hD rfl
            clear hP hD
            obtain ⟨hP, hD⟩ := h9R
            obtain rfl := hr_48
            exact W.iret (v := (-5)) hx hb hr (fun t ht hW => ⟨⟨(-5), (fe, q_50), rfl, ⟨(show ((-5) : Int32).toInt = zSetR s_.toInt he.toInt si.toInt i.toInt from by (have k9 : ((-5) : Int32).toInt = -5 := (by decide); unfold zSetR; (repeat (first | rw [if_pos (by omega)] | rw [if_neg (by omega)])) <;> omega)), (show (((-5) : Int32).toInt = 1 → fe = vp_updL fe i.toNatClampNeg (zNar (he.toInt - 100) v)) from by (have k9 : ((-5) : Int32).toInt = -5 := (by decide); intro h; exfalso; omega)), (show (((-5) : Int32).toInt ≠ 1 → fe = fe) from by (have k9 : ((-5) : Int32).toInt = -5 := (by decide); intro h; exact rfl)), trivial⟩, zRet ht hP hD [3, 4, 0, 1, 2] (by decide) rfl⟩, hS.F ht⟩) hS.2.2 dX7_set_52
        · refine lv_if_ne (tgt := 53) hx hb dX7_set_44 (by decide) (fun c_51 => ?_) (fun c_51 => ?_)
          · exact absurd c_51 (by decide)
          · refine lv_aload_n hx hb dX7_set_47 rfl (lv_at hl 2 rfl) ?_
            refine lv_iconst (v := 5) hx hb dX7_set_48 (by decide) ?_
            skip
            refine zw_V (As := [.int 5]) (rest := []) (wr := [(xs, .inl (cS, 8, .inr (.inr (.inr (.inr fh))))), (h0, .inr (4, [.ref e0, .int he, .int si])), (e0, .inl (cJ, 160, .inr (.inl fe)))]) ⟨hx, hb, hml, hown, hts⟩ (c_X_refuse_5 l D cI cJ cZ cP cS po x0 xs j0 k0 w0 rd mv xr (im) (lf) fr hy0 hy1 hy2 hy3 H.size) (cwV 1 hts gX7_set_X7_refuse rfl rfl rfl ⟨rfl, dh_X7_refuse⟩ ⟨Nat.le_of_ble_eq_true rfl, Nat.le_of_ble_eq_true rfl⟩) hK hN (hZ.kept hS) hP hD hS hA [0, 1] [2, 3, 4] rfl rfl (by decide) (by decide) (by decide) (va_recv (q := (RX7, TX7, 9)) hK hP (ci := 7) (q0 := 0) rfl rfl) rfl hl.1 rfl (Nat.le_of_ble_eq_true rfl) dX7_set_49 ⟨Nat.le_of_ble_eq_true rfl, Nat.le_of_ble_eq_true rfl⟩ (fun r_52 u_53 H locs hr_52 hP hD hS => ?_)
            obtain ⟨q_54, rfl⟩ : ∃ z, z = u_53 := ⟨_, rfl⟩
            have h9R := zRe (ws' := [(xs, .inl (cS, 8, .inr (.inr (.inr (.inr fh))))), (h0, .inr (4, [.ref e0, .int he, .int si])), (e0, .inl (cJ, 160, .inr (.inl fe))), (x0, .inr (7, [.ref xs, .ref j0, .ref k0, .ref w0, .ref rd, .ref mv, .ref xr, .int im, .int lf])), (xr, .inl (cI, 8, .inl q_54))]) hP hD rfl
            clear hP hD
            obtain ⟨hP, hD⟩ := h9R
            obtain rfl := hr_52
            exact W.iret (v := (-5)) hx hb hr (fun t ht hW => ⟨⟨(-5), (fe, q_54), rfl, ⟨(show ((-5) : Int32).toInt = zSetR s_.toInt he.toInt si.toInt i.toInt from by (have k9 : ((-5) : Int32).toInt = -5 := (by decide); unfold zSetR; (repeat (first | rw [if_pos (by omega)] | rw [if_neg (by omega)])) <;> omega)), (show (((-5) : Int32).toInt = 1 → fe = vp_updL fe i.toNatClampNeg (zNar (he.toInt - 100) v)) from by (have k9 : ((-5) : Int32).toInt = -5 := (by decide); intro h; exfalso; omega)), (show (((-5) : Int32).toInt ≠ 1 → fe = fe) from by (have k9 : ((-5) : Int32).toInt = -5 := (by decide); intro h; exact rfl)), trivial⟩, zRet ht hP hD [3, 4, 0, 1, 2] (by decide) rfl⟩, hS.F ht⟩) hS.2.2 dX7_set_52
        · refine lv_if_ne (tgt := 53) hx hb dX7_set_44 (by decide) (fun c_55 => ?_) (fun c_55 => ?_)
          · refine lv_aload hx hb dX7_set_53 (lv_at hl 1 rfl) ?_
            refine lv_iload_n hx hb dX7_set_55 rfl (lv_at hl 4 rfl) ?_
            refine lv_lload_n hx hb dX7_set_56 rfl (lv_at hl 5 rfl) ?_
            skip
            refine zw_Vv (As := [.int i, .long v]) (rest := []) (wr := [(x0, .inr (7, [.ref xs, .ref j0, .ref k0, .ref w0, .ref rd, .ref mv, .ref xr, .int im, .int lf])), (xr, .inl (cI, 8, .inl fr)), (xs, .inl (cS, 8, .inr (.inr (.inr (.inr fh)))))]) ⟨hx, hb, hml, hown, hts⟩ (c_F_Sh_put l D cI cJ cZ cP cS po h0 e0 (he) (si) fe (i) (v) hy4 hy5 hy6 hy7 (by omega) (by omega) (by omega) H.size) (cwV 2 hts gX7_set_X4_put rfl rfl rfl ⟨rfl, dh_X4_put⟩ ⟨Nat.le_of_ble_eq_true rfl, Nat.le_of_ble_eq_true rfl⟩) hK hN (hZ.kept hS) hP hD hS hA [3, 4] [0, 1, 2] rfl rfl (by decide) (by decide) (by decide) (va_recv (q := (RX4, TX4, 3)) hK hP (ci := 4) (q0 := 3) rfl rfl) rfl hl.1 rfl (Nat.le_of_ble_eq_true rfl) dX7_set_57 ⟨Nat.le_of_ble_eq_true rfl, Nat.le_of_ble_eq_true rfl⟩ (fun u_57 H locs hr_56 hP hD hS => ?_)
            obtain ⟨q_58, rfl⟩ : ∃ z, z = u_57 := ⟨_, rfl⟩
            obtain ⟨hsr_56_0, hr_56⟩ := hr_56
            have h9R := zRe (ws' := [(x0, .inr (7, [.ref xs, .ref j0, .ref k0, .ref w0, .ref rd, .ref mv, .ref xr, .int im, .int lf])), (xr, .inl (cI, 8, .inl fr)), (xs, .inl (cS, 8, .inr (.inr (.inr (.inr fh))))), (h0, .inr (4, [.ref e0, .int he, .int si])), (e0, .inl (cJ, 160, .inr (.inl q_58)))]) hP hD rfl
            clear hP hD
            obtain ⟨hP, hD⟩ := h9R
            refine lv_iconst (v := 1) hx hb dX7_set_60 (by decide) ?_
            exact W.iret (v := 1) hx hb hr (fun t ht hW => ⟨⟨1, (q_58, fr), rfl, ⟨(show (1 : Int32).toInt = zSetR s_.toInt he.toInt si.toInt i.toInt from by (have k9 : (1 : Int32).toInt = 1 := (by decide); unfold zSetR; (repeat (first | rw [if_pos (by omega)] | rw [if_neg (by omega)])) <;> omega)), (show ((1 : Int32).toInt = 1 → q_58 = vp_updL fe i.toNatClampNeg (zNar (he.toInt - 100) v)) from by (have k9 : (1 : Int32).toInt = 1 := (by decide); intro h; exact hsr_56_0)), (show ((1 : Int32).toInt ≠ 1 → q_58 = fe) from by (have k9 : (1 : Int32).toInt = 1 := (by decide); intro h; exfalso; omega)), trivial⟩, zRet ht hP hD [0, 1, 2, 3, 4] (by decide) rfl⟩, hS.F ht⟩) hS.2.2 dX7_set_61
          · exact absurd c_55 (by decide)
      · exact absurd c_27 (by decide)
set_option maxHeartbeats 4000000 in
set_option maxRecDepth 100000 in
theorem c_F_X_copy (l : Launch) (D : va_G) (cI cJ cZ cP cS : ClassId) (po : zPool) (x0 xs j0 k0 w0 rd mv xr : Nat) (im lf : Int32) (fr : Nat → Int32) (fh : Nat → Option Nat) (s_ : Int32) (h0 e0 : Nat) (he si : Int32) (fe : Nat → Int64) (q_ : Int32) (g0 e1 : Nat) (ge gs : Int32) (fe1 : Nat → Int64) (i j n : Int32) (hy0 : 0 ≤ im.toInt) (hy1 : im.toInt ≤ 1) (hy2 : (-1) ≤ lf.toInt) (hy3 : lf.toInt ≤ 160) (hy4 : (-1) ≤ he.toInt) (hy5 : he.toInt ≤ 103) (hy6 : 0 ≤ si.toInt) (hy7 : si.toInt ≤ 160) (hy8 : (-1) ≤ ge.toInt) (hy9 : ge.toInt ≤ 103) (hy10 : 0 ≤ gs.toInt) (hy11 : gs.toInt ≤ 160) (hfs : 0 ≤ s_.toInt → s_.toInt ≤ 7 → fh s_.toNatClampNeg = some h0) (hfq : 0 ≤ q_.toInt → q_.toInt ≤ 7 → fh q_.toNatClampNeg = some g0) (hpz : Nat) : Met l yX7_copy wsX7_copy ({ frames := 2, cells := 0, slots := 0, locals := 100 }) (va_Pc [.ref x0, .int s_, .int q_, .int i, .int j, .int n] (zW D (zKT cI cJ cZ cP cS) po [(x0, .inr (7, [.ref xs, .ref j0, .ref k0, .ref w0, .ref rd, .ref mv, .ref xr, .int im, .int lf])), (xr, .inl (cI, 8, .inl fr)), (xs, .inl (cS, 8, .inr (.inr (.inr (.inr fh))))), (h0, .inr (4, [.ref e0, .int he, .int si])), (e0, .inl (cJ, 160, .inr (.inl fe))), (g0, .inr (4, [.ref e1, .int ge, .int gs])), (e1, .inl (cJ, 160, .inr (.inl fe1)))] hpz)) (va_Qi (fun (r : Int32) (u : (Nat → Int64) × (Nat → Int32)) => (r.toInt = zCopR s_.toInt q_.toInt he.toInt ge.toInt si.toInt gs.toInt i.toInt j.toInt n.toInt) ∧ ((r.toInt = 1 → u.1 = va_cpy fe fe1 i.toNatClampNeg j.toNatClampNeg n.toNatClampNeg)) ∧ ((r.toInt ≠ 1 → u.1 = fe1)) ∧ (True)) (zB D [(x0, .inr (7, [.ref xs, .ref j0, .ref k0, .ref w0, .ref rd, .ref mv, .ref xr, .int im, .int lf])), (xr, .inl (cI, 8, .inl fr)), (xs, .inl (cS, 8, .inr (.inr (.inr (.inr fh))))), (h0, .inr (4, [.ref e0, .int he, .int si])), (e0, .inl (cJ, 160, .inr (.inl fe))), (g0, .inr (4, [.ref e1, .int ge, .int gs])), (e1, .inl (cJ, 160, .inr (.inl fe1)))] hpz (fun (u : (Nat → Int64) × (Nat → Int32)) => [(x0, .inr (7, [.ref xs, .ref j0, .ref k0, .ref w0, .ref rd, .ref mv, .ref xr, .int im, .int lf])), (xr, .inl (cI, 8, .inl u.2)), (xs, .inl (cS, 8, .inr (.inr (.inr (.inr fh))))), (h0, .inr (4, [.ref e0, .int he, .int si])), (e0, .inl (cJ, 160, .inr (.inl fe))), (g0, .inr (4, [.ref e1, .int ge, .int gs])), (e1, .inl (cJ, 160, .inr (.inl u.1)))])) (va_A [(x0, .inr (7, [.ref xs, .ref j0, .ref k0, .ref w0, .ref rd, .ref mv, .ref xr, .int im, .int lf])), (xr, .inl (cI, 8, .inl fr)), (xs, .inl (cS, 8, .inr (.inr (.inr (.inr fh))))), (h0, .inr (4, [.ref e0, .int he, .int si])), (e0, .inl (cJ, 160, .inr (.inl fe))), (g0, .inr (4, [.ref e1, .int ge, .int gs])), (e1, .inl (cJ, 160, .inr (.inl fe1)))] hpz)) 0 0 (va_A [(x0, .inr (7, [.ref xs, .ref j0, .ref k0, .ref w0, .ref rd, .ref mv, .ref xr, .int im, .int lf])), (xr, .inl (cI, 8, .inl fr)), (xs, .inl (cS, 8, .inr (.inr (.inr (.inr fh))))), (h0, .inr (4, [.ref e0, .int he, .int si])), (e0, .inl (cJ, 160, .inr (.inl fe))), (g0, .inr (4, [.ref e1, .int ge, .int gs])), (e1, .inl (cJ, 160, .inr (.inl fe1)))] hpz) := by
  refine Met.ofW (cc := cX7_copy) (maxL := 11) (ret := (some .int)) (by decide) rfl ?_
  intro p e s m args below meth c s₁ B hml hv
  obtain ⟨rfl, hsz, hP, hK, hD0, hN, hZ⟩ := hv
  have hx := B.exec
  have hb := B.bytes
  have hr := B.returns
  have hts := atoms_spec (ws := wsX7_copy) B.pre
  have hown : s.vm.findClass RX7 = some m.cls := findClass_of_methodNamed B.named
  have hlocks := B.notSynchronized
  subst hsz
  have hD := hD0.self (sz := s.heap.size)
  have hA := zA_of hD
  have hl := lv_entry ([.ref x0, .int s_, .int q_, .int i, .int j, .int n]) (n := 11) (Nat.le_of_ble_eq_true rfl)
  rw [lg_entry_eq]
  generalize (lg_sl ([.ref x0, .int s_, .int q_, .int i, .int j, .int n]) ++ List.replicate (11 - (lg_sl ([.ref x0, .int s_, .int q_, .int i, .int j, .int n])).length) Slot.unset).toArray = ls at hl ⊢
  replace hl : lv_has ls 11 [(0, .ref x0), (1, .int s_), (2, .int q_), (3, .int i), (4, .int j), (5, .int n)] := hl
  refine zw_begin hP hD (fun H locs hP1 hS => ?_)
  clear hP
  have hP := hP1
  clear hP1
  refine lv_aload_n hx hb dX7_copy_0 rfl (lv_at hl 0 rfl) ?_
  refine lv_iload_n hx hb dX7_copy_1 rfl (lv_at hl 1 rfl) ?_
  refine zc_Vq (As := [.int s_]) (rest := []) ⟨hx, hb, hml, hown, hts⟩ (c_X_shelfAt l D cI cJ cZ cP cS po x0 xs j0 k0 w0 rd mv xr (im) (lf) ((fun _ => 0)) fh (s_) hy0 hy1 hy2 hy3) (cwV 1 hts gX7_copy_X7_shelfAt rfl rfl rfl ⟨rfl, dh_X7_shelfAt⟩ ⟨Nat.le_of_ble_eq_true rfl, Nat.le_of_ble_eq_true rfl⟩) hK hN (hZ.kept hS) hP (hP.sub [0, 2] rfl) (va_recv (q := (RX7, TX7, 9)) hK hP (ci := 7) (q0 := 0) rfl rfl) rfl hl.1 rfl (Nat.le_of_ble_eq_true rfl) dX7_copy_2 ⟨Nat.le_of_ble_eq_true rfl, Nat.le_of_ble_eq_true rfl⟩ (fun r_1 hr_1 => ?_)
  rcases hr_1 with ⟨rfl, g_2⟩ | ⟨rfl, g_3, g_4⟩ | ⟨rfl, g_5, g_6⟩
  · refine lv_astoreN (lv' := [(6, .null), (0, .ref x0), (1, .int s_), (2, .int q_), (3, .int i), (4, .int j), (5, .int n)]) hx hb dX7_copy_5 hl (by decide) rfl (fun ls hl => ?_)
    refine lv_aload_n hx hb dX7_copy_7 rfl (lv_at hl 1 rfl) ?_
    refine lv_iload_n hx hb dX7_copy_8 rfl (lv_at hl 3 rfl) ?_
    refine zc_Vq (As := [.int q_]) (rest := []) ⟨hx, hb, hml, hown, hts⟩ (c_X_shelfAt l D cI cJ cZ cP cS po x0 xs j0 k0 w0 rd mv xr (im) (lf) ((fun _ => 0)) fh (q_) hy0 hy1 hy2 hy3) (cwV 1 hts gX7_copy_X7_shelfAt rfl rfl rfl ⟨rfl, dh_X7_shelfAt⟩ ⟨Nat.le_of_ble_eq_true rfl, Nat.le_of_ble_eq_true rfl⟩) hK hN (hZ.kept hS) hP (hP.sub [0, 2] rfl) (va_recv (q := (RX7, TX7, 9)) hK hP (ci := 7) (q0 := 0) rfl rfl) rfl hl.1 rfl (Nat.le_of_ble_eq_true rfl) dX7_copy_9 ⟨Nat.le_of_ble_eq_true rfl, Nat.le_of_ble_eq_true rfl⟩ (fun r_7 hr_7 => ?_)
    rcases hr_7 with ⟨rfl, g_8⟩ | ⟨rfl, g_9, g_10⟩ | ⟨rfl, g_11, g_12⟩
    · refine lv_astoreN (lv' := [(7, .null), (6, .null), (0, .ref x0), (1, .int s_), (2, .int q_), (3, .int i), (4, .int j), (5, .int n)]) hx hb dX7_copy_12 hl (by decide) rfl (fun ls hl => ?_)
      refine lv_aloadN hx hb dX7_copy_14 (lv_at hl 1 rfl) ?_
      refine lv_ifnullN (tgt := 24) hx hb dX7_copy_16 (by decide) ?_
      refine lv_aload_n hx hb dX7_copy_24 rfl (lv_at hl 2 rfl) ?_
      refine lv_iconst (v := 1) hx hb dX7_copy_25 (by decide) ?_
      skip
      refine zw_V (As := [.int 1]) (rest := []) (wr := [(xs, .inl (cS, 8, .inr (.inr (.inr (.inr fh))))), (h0, .inr (4, [.ref e0, .int he, .int si])), (e0, .inl (cJ, 160, .inr (.inl fe))), (g0, .inr (4, [.ref e1, .int ge, .int gs])), (e1, .inl (cJ, 160, .inr (.inl fe1)))]) ⟨hx, hb, hml, hown, hts⟩ (c_X_refuse_1 l D cI cJ cZ cP cS po x0 xs j0 k0 w0 rd mv xr (im) (lf) fr hy0 hy1 hy2 hy3 H.size) (cwV 1 hts gX7_copy_X7_refuse rfl rfl rfl ⟨rfl, dh_X7_refuse⟩ ⟨Nat.le_of_ble_eq_true rfl, Nat.le_of_ble_eq_true rfl⟩) hK hN (hZ.kept hS) hP hD hS hA [0, 1] [2, 3, 4, 5, 6] rfl rfl (by decide) (by decide) (by decide) (va_recv (q := (RX7, TX7, 9)) hK hP (ci := 7) (q0 := 0) rfl rfl) rfl hl.1 rfl (Nat.le_of_ble_eq_true rfl) dX7_copy_26 ⟨Nat.le_of_ble_eq_true rfl, Nat.le_of_ble_eq_true rfl⟩ (fun r_13 u_14 H locs hr_13 hP hD hS => ?_)
      obtain ⟨q_15, rfl⟩ : ∃ z, z = u_14 := ⟨_, rfl⟩
      have h9R := zRe (ws' := [(xs, .inl (cS, 8, .inr (.inr (.inr (.inr fh))))), (h0, .inr (4, [.ref e0, .int he, .int si])), (e0, .inl (cJ, 160, .inr (.inl fe))), (g0, .inr (4, [.ref e1, .int ge, .int gs])), (e1, .inl (cJ, 160, .inr (.inl fe1))), (x0, .inr (7, [.ref xs, .ref j0, .ref k0, .ref w0, .ref rd, .ref mv, .ref xr, .int im, .int lf])), (xr, .inl (cI, 8, .inl q_15))]) hP hD rfl
      clear hP hD
      obtain ⟨hP, hD⟩ := h9R
      obtain rfl := hr_13
      exact W.iret (v := (-1)) hx hb hr (fun t ht hW => ⟨⟨(-1), (fe1, q_15), rfl, ⟨(show ((-1) : Int32).toInt = zCopR s_.toInt q_.toInt he.toInt ge.toInt si.toInt gs.toInt i.toInt j.toInt n.toInt from by (have k9 : ((-1) : Int32).toInt = -1 := (by decide); unfold zCopR; (repeat (first | rw [if_pos (by omega)] | rw [if_neg (by omega)])) <;> omega)), (show (((-1) : Int32).toInt = 1 → fe1 = va_cpy fe fe1 i.toNatClampNeg j.toNatClampNeg n.toNatClampNeg) from by (have k9 : ((-1) : Int32).toInt = -1 := (by decide); intro h; exfalso; omega)), (show (((-1) : Int32).toInt ≠ 1 → fe1 = fe1) from by (have k9 : ((-1) : Int32).toInt = -1 := (by decide); intro h; exact rfl)), trivial⟩, zRet ht hP hD [5, 6, 0, 1, 2, 3, 4] (by decide) rfl⟩, hS.F ht⟩) hS.2.2 dX7_copy_29
    · refine lv_astoreN (lv' := [(7, .null), (6, .null), (0, .ref x0), (1, .int s_), (2, .int q_), (3, .int i), (4, .int j), (5, .int n)]) hx hb dX7_copy_12 hl (by decide) rfl (fun ls hl => ?_)
      refine lv_aloadN hx hb dX7_copy_14 (lv_at hl 1 rfl) ?_
      refine lv_ifnullN (tgt := 24) hx hb dX7_copy_16 (by decide) ?_
      refine lv_aload_n hx hb dX7_copy_24 rfl (lv_at hl 2 rfl) ?_
      refine lv_iconst (v := 1) hx hb dX7_copy_25 (by decide) ?_
      skip
      refine zw_V (As := [.int 1]) (rest := []) (wr := [(xs, .inl (cS, 8, .inr (.inr (.inr (.inr fh))))), (h0, .inr (4, [.ref e0, .int he, .int si])), (e0, .inl (cJ, 160, .inr (.inl fe))), (g0, .inr (4, [.ref e1, .int ge, .int gs])), (e1, .inl (cJ, 160, .inr (.inl fe1)))]) ⟨hx, hb, hml, hown, hts⟩ (c_X_refuse_1 l D cI cJ cZ cP cS po x0 xs j0 k0 w0 rd mv xr (im) (lf) fr hy0 hy1 hy2 hy3 H.size) (cwV 1 hts gX7_copy_X7_refuse rfl rfl rfl ⟨rfl, dh_X7_refuse⟩ ⟨Nat.le_of_ble_eq_true rfl, Nat.le_of_ble_eq_true rfl⟩) hK hN (hZ.kept hS) hP hD hS hA [0, 1] [2, 3, 4, 5, 6] rfl rfl (by decide) (by decide) (by decide) (va_recv (q := (RX7, TX7, 9)) hK hP (ci := 7) (q0 := 0) rfl rfl) rfl hl.1 rfl (Nat.le_of_ble_eq_true rfl) dX7_copy_26 ⟨Nat.le_of_ble_eq_true rfl, Nat.le_of_ble_eq_true rfl⟩ (fun r_16 u_17 H locs hr_16 hP hD hS => ?_)
      obtain ⟨q_18, rfl⟩ : ∃ z, z = u_17 := ⟨_, rfl⟩
      have h9R := zRe (ws' := [(xs, .inl (cS, 8, .inr (.inr (.inr (.inr fh))))), (h0, .inr (4, [.ref e0, .int he, .int si])), (e0, .inl (cJ, 160, .inr (.inl fe))), (g0, .inr (4, [.ref e1, .int ge, .int gs])), (e1, .inl (cJ, 160, .inr (.inl fe1))), (x0, .inr (7, [.ref xs, .ref j0, .ref k0, .ref w0, .ref rd, .ref mv, .ref xr, .int im, .int lf])), (xr, .inl (cI, 8, .inl q_18))]) hP hD rfl
      clear hP hD
      obtain ⟨hP, hD⟩ := h9R
      obtain rfl := hr_16
      exact W.iret (v := (-1)) hx hb hr (fun t ht hW => ⟨⟨(-1), (fe1, q_18), rfl, ⟨(show ((-1) : Int32).toInt = zCopR s_.toInt q_.toInt he.toInt ge.toInt si.toInt gs.toInt i.toInt j.toInt n.toInt from by (have k9 : ((-1) : Int32).toInt = -1 := (by decide); unfold zCopR; (repeat (first | rw [if_pos (by omega)] | rw [if_neg (by omega)])) <;> omega)), (show (((-1) : Int32).toInt = 1 → fe1 = va_cpy fe fe1 i.toNatClampNeg j.toNatClampNeg n.toNatClampNeg) from by (have k9 : ((-1) : Int32).toInt = -1 := (by decide); intro h; exfalso; omega)), (show (((-1) : Int32).toInt ≠ 1 → fe1 = fe1) from by (have k9 : ((-1) : Int32).toInt = -1 := (by decide); intro h; exact rfl)), trivial⟩, zRet ht hP hD [5, 6, 0, 1, 2, 3, 4] (by decide) rfl⟩, hS.F ht⟩) hS.2.2 dX7_copy_29
    · rw [hfq (by omega) (by omega)]
      refine W.eq (g2 := F0 m 12 ls (.ref g0 :: [])) rfl ?_
      refine lv_astore (lv' := [(7, .ref g0), (6, .null), (0, .ref x0), (1, .int s_), (2, .int q_), (3, .int i), (4, .int j), (5, .int n)]) hx hb dX7_copy_12 hl (by decide) rfl (fun ls hl => ?_)
      refine lv_aloadN hx hb dX7_copy_14 (lv_at hl 1 rfl) ?_
      refine lv_ifnullN (tgt := 24) hx hb dX7_copy_16 (by decide) ?_
      refine lv_aload_n hx hb dX7_copy_24 rfl (lv_at hl 2 rfl) ?_
      refine lv_iconst (v := 1) hx hb dX7_copy_25 (by decide) ?_
      skip
      refine zw_V (As := [.int 1]) (rest := []) (wr := [(xs, .inl (cS, 8, .inr (.inr (.inr (.inr fh))))), (h0, .inr (4, [.ref e0, .int he, .int si])), (e0, .inl (cJ, 160, .inr (.inl fe))), (g0, .inr (4, [.ref e1, .int ge, .int gs])), (e1, .inl (cJ, 160, .inr (.inl fe1)))]) ⟨hx, hb, hml, hown, hts⟩ (c_X_refuse_1 l D cI cJ cZ cP cS po x0 xs j0 k0 w0 rd mv xr (im) (lf) fr hy0 hy1 hy2 hy3 H.size) (cwV 1 hts gX7_copy_X7_refuse rfl rfl rfl ⟨rfl, dh_X7_refuse⟩ ⟨Nat.le_of_ble_eq_true rfl, Nat.le_of_ble_eq_true rfl⟩) hK hN (hZ.kept hS) hP hD hS hA [0, 1] [2, 3, 4, 5, 6] rfl rfl (by decide) (by decide) (by decide) (va_recv (q := (RX7, TX7, 9)) hK hP (ci := 7) (q0 := 0) rfl rfl) rfl hl.1 rfl (Nat.le_of_ble_eq_true rfl) dX7_copy_26 ⟨Nat.le_of_ble_eq_true rfl, Nat.le_of_ble_eq_true rfl⟩ (fun r_19 u_20 H locs hr_19 hP hD hS => ?_)
      obtain ⟨q_21, rfl⟩ : ∃ z, z = u_20 := ⟨_, rfl⟩
      have h9R := zRe (ws' := [(xs, .inl (cS, 8, .inr (.inr (.inr (.inr fh))))), (h0, .inr (4, [.ref e0, .int he, .int si])), (e0, .inl (cJ, 160, .inr (.inl fe))), (g0, .inr (4, [.ref e1, .int ge, .int gs])), (e1, .inl (cJ, 160, .inr (.inl fe1))), (x0, .inr (7, [.ref xs, .ref j0, .ref k0, .ref w0, .ref rd, .ref mv, .ref xr, .int im, .int lf])), (xr, .inl (cI, 8, .inl q_21))]) hP hD rfl
      clear hP hD
      obtain ⟨hP, hD⟩ := h9R
      obtain rfl := hr_19
      exact W.iret (v := (-1)) hx hb hr (fun t ht hW => ⟨⟨(-1), (fe1, q_21), rfl, ⟨(show ((-1) : Int32).toInt = zCopR s_.toInt q_.toInt he.toInt ge.toInt si.toInt gs.toInt i.toInt j.toInt n.toInt from by (have k9 : ((-1) : Int32).toInt = -1 := (by decide); unfold zCopR; (repeat (first | rw [if_pos (by omega)] | rw [if_neg (by omega)])) <;> omega)), (show (((-1) : Int32).toInt = 1 → fe1 = va_cpy fe fe1 i.toNatClampNeg j.toNatClampNeg n.toNatClampNeg) from by (have k9 : ((-1) : Int32).toInt = -1 := (by decide); intro h; exfalso; omega)), (show (((-1) : Int32).toInt ≠ 1 → fe1 = fe1) from by (have k9 : ((-1) : Int32).toInt = -1 := (by decide); intro h; exact rfl)), trivial⟩, zRet ht hP hD [5, 6, 0, 1, 2, 3, 4] (by decide) rfl⟩, hS.F ht⟩) hS.2.2 dX7_copy_29
  · refine lv_astoreN (lv' := [(6, .null), (0, .ref x0), (1, .int s_), (2, .int q_), (3, .int i), (4, .int j), (5, .int n)]) hx hb dX7_copy_5 hl (by decide) rfl (fun ls hl => ?_)
    refine lv_aload_n hx hb dX7_copy_7 rfl (lv_at hl 1 rfl) ?_
    refine lv_iload_n hx hb dX7_copy_8 rfl (lv_at hl 3 rfl) ?_
    refine zc_Vq (As := [.int q_]) (rest := []) ⟨hx, hb, hml, hown, hts⟩ (c_X_shelfAt l D cI cJ cZ cP cS po x0 xs j0 k0 w0 rd mv xr (im) (lf) ((fun _ => 0)) fh (q_) hy0 hy1 hy2 hy3) (cwV 1 hts gX7_copy_X7_shelfAt rfl rfl rfl ⟨rfl, dh_X7_shelfAt⟩ ⟨Nat.le_of_ble_eq_true rfl, Nat.le_of_ble_eq_true rfl⟩) hK hN (hZ.kept hS) hP (hP.sub [0, 2] rfl) (va_recv (q := (RX7, TX7, 9)) hK hP (ci := 7) (q0 := 0) rfl rfl) rfl hl.1 rfl (Nat.le_of_ble_eq_true rfl) dX7_copy_9 ⟨Nat.le_of_ble_eq_true rfl, Nat.le_of_ble_eq_true rfl⟩ (fun r_22 hr_22 => ?_)
    rcases hr_22 with ⟨rfl, g_23⟩ | ⟨rfl, g_24, g_25⟩ | ⟨rfl, g_26, g_27⟩
    · refine lv_astoreN (lv' := [(7, .null), (6, .null), (0, .ref x0), (1, .int s_), (2, .int q_), (3, .int i), (4, .int j), (5, .int n)]) hx hb dX7_copy_12 hl (by decide) rfl (fun ls hl => ?_)
      refine lv_aloadN hx hb dX7_copy_14 (lv_at hl 1 rfl) ?_
      refine lv_ifnullN (tgt := 24) hx hb dX7_copy_16 (by decide) ?_
      refine lv_aload_n hx hb dX7_copy_24 rfl (lv_at hl 2 rfl) ?_
      refine lv_iconst (v := 1) hx hb dX7_copy_25 (by decide) ?_
      skip
      refine zw_V (As := [.int 1]) (rest := []) (wr := [(xs, .inl (cS, 8, .inr (.inr (.inr (.inr fh))))), (h0, .inr (4, [.ref e0, .int he, .int si])), (e0, .inl (cJ, 160, .inr (.inl fe))), (g0, .inr (4, [.ref e1, .int ge, .int gs])), (e1, .inl (cJ, 160, .inr (.inl fe1)))]) ⟨hx, hb, hml, hown, hts⟩ (c_X_refuse_1 l D cI cJ cZ cP cS po x0 xs j0 k0 w0 rd mv xr (im) (lf) fr hy0 hy1 hy2 hy3 H.size) (cwV 1 hts gX7_copy_X7_refuse rfl rfl rfl ⟨rfl, dh_X7_refuse⟩ ⟨Nat.le_of_ble_eq_true rfl, Nat.le_of_ble_eq_true rfl⟩) hK hN (hZ.kept hS) hP hD hS hA [0, 1] [2, 3, 4, 5, 6] rfl rfl (by decide) (by decide) (by decide) (va_recv (q := (RX7, TX7, 9)) hK hP (ci := 7) (q0 := 0) rfl rfl) rfl hl.1 rfl (Nat.le_of_ble_eq_true rfl) dX7_copy_26 ⟨Nat.le_of_ble_eq_true rfl, Nat.le_of_ble_eq_true rfl⟩ (fun r_28 u_29 H locs hr_28 hP hD hS => ?_)
      obtain ⟨q_30, rfl⟩ : ∃ z, z = u_29 := ⟨_, rfl⟩
      have h9R := zRe (ws' := [(xs, .inl (cS, 8, .inr (.inr (.inr (.inr fh))))), (h0, .inr (4, [.ref e0, .int he, .int si])), (e0, .inl (cJ, 160, .inr (.inl fe))), (g0, .inr (4, [.ref e1, .int ge, .int gs])), (e1, .inl (cJ, 160, .inr (.inl fe1))), (x0, .inr (7, [.ref xs, .ref j0, .ref k0, .ref w0, .ref rd, .ref mv, .ref xr, .int im, .int lf])), (xr, .inl (cI, 8, .inl q_30))]) hP hD rfl
      clear hP hD
      obtain ⟨hP, hD⟩ := h9R
      obtain rfl := hr_28
      exact W.iret (v := (-1)) hx hb hr (fun t ht hW => ⟨⟨(-1), (fe1, q_30), rfl, ⟨(show ((-1) : Int32).toInt = zCopR s_.toInt q_.toInt he.toInt ge.toInt si.toInt gs.toInt i.toInt j.toInt n.toInt from by (have k9 : ((-1) : Int32).toInt = -1 := (by decide); unfold zCopR; (repeat (first | rw [if_pos (by omega)] | rw [if_neg (by omega)])) <;> omega)), (show (((-1) : Int32).toInt = 1 → fe1 = va_cpy fe fe1 i.toNatClampNeg j.toNatClampNeg n.toNatClampNeg) from by (have k9 : ((-1) : Int32).toInt = -1 := (by decide); intro h; exfalso; omega)), (show (((-1) : Int32).toInt ≠ 1 → fe1 = fe1) from by (have k9 : ((-1) : Int32).toInt = -1 := (by decide); intro h; exact rfl)), trivial⟩, zRet ht hP hD [5, 6, 0, 1, 2, 3, 4] (by decide) rfl⟩, hS.F ht⟩) hS.2.2 dX7_copy_29
    · refine lv_astoreN (lv' := [(7, .null), (6, .null), (0, .ref x0), (1, .int s_), (2, .int q_), (3, .int i), (4, .int j), (5, .int n)]) hx hb dX7_copy_12 hl (by decide) rfl (fun ls hl => ?_)
      refine lv_aloadN hx hb dX7_copy_14 (lv_at hl 1 rfl) ?_
      refine lv_ifnullN (tgt := 24) hx hb dX7_copy_16 (by decide) ?_
      refine lv_aload_n hx hb dX7_copy_24 rfl (lv_at hl 2 rfl) ?_
      refine lv_iconst (v := 1) hx hb dX7_copy_25 (by decide) ?_
      skip
      refine zw_V (As := [.int 1]) (rest := []) (wr := [(xs, .inl (cS, 8, .inr (.inr (.inr (.inr fh))))), (h0, .inr (4, [.ref e0, .int he, .int si])), (e0, .inl (cJ, 160, .inr (.inl fe))), (g0, .inr (4, [.ref e1, .int ge, .int gs])), (e1, .inl (cJ, 160, .inr (.inl fe1)))]) ⟨hx, hb, hml, hown, hts⟩ (c_X_refuse_1 l D cI cJ cZ cP cS po x0 xs j0 k0 w0 rd mv xr (im) (lf) fr hy0 hy1 hy2 hy3 H.size) (cwV 1 hts gX7_copy_X7_refuse rfl rfl rfl ⟨rfl, dh_X7_refuse⟩ ⟨Nat.le_of_ble_eq_true rfl, Nat.le_of_ble_eq_true rfl⟩) hK hN (hZ.kept hS) hP hD hS hA [0, 1] [2, 3, 4, 5, 6] rfl rfl (by decide) (by decide) (by decide) (va_recv (q := (RX7, TX7, 9)) hK hP (ci := 7) (q0 := 0) rfl rfl) rfl hl.1 rfl (Nat.le_of_ble_eq_true rfl) dX7_copy_26 ⟨Nat.le_of_ble_eq_true rfl, Nat.le_of_ble_eq_true rfl⟩ (fun r_31 u_32 H locs hr_31 hP hD hS => ?_)
      obtain ⟨q_33, rfl⟩ : ∃ z, z = u_32 := ⟨_, rfl⟩
      have h9R := zRe (ws' := [(xs, .inl (cS, 8, .inr (.inr (.inr (.inr fh))))), (h0, .inr (4, [.ref e0, .int he, .int si])), (e0, .inl (cJ, 160, .inr (.inl fe))), (g0, .inr (4, [.ref e1, .int ge, .int gs])), (e1, .inl (cJ, 160, .inr (.inl fe1))), (x0, .inr (7, [.ref xs, .ref j0, .ref k0, .ref w0, .ref rd, .ref mv, .ref xr, .int im, .int lf])), (xr, .inl (cI, 8, .inl q_33))]) hP hD rfl
      clear hP hD
      obtain ⟨hP, hD⟩ := h9R
      obtain rfl := hr_31
      exact W.iret (v := (-1)) hx hb hr (fun t ht hW => ⟨⟨(-1), (fe1, q_33), rfl, ⟨(show ((-1) : Int32).toInt = zCopR s_.toInt q_.toInt he.toInt ge.toInt si.toInt gs.toInt i.toInt j.toInt n.toInt from by (have k9 : ((-1) : Int32).toInt = -1 := (by decide); unfold zCopR; (repeat (first | rw [if_pos (by omega)] | rw [if_neg (by omega)])) <;> omega)), (show (((-1) : Int32).toInt = 1 → fe1 = va_cpy fe fe1 i.toNatClampNeg j.toNatClampNeg n.toNatClampNeg) from by (have k9 : ((-1) : Int32).toInt = -1 := (by decide); intro h; exfalso; omega)), (show (((-1) : Int32).toInt ≠ 1 → fe1 = fe1) from by (have k9 : ((-1) : Int32).toInt = -1 := (by decide); intro h; exact rfl)), trivial⟩, zRet ht hP hD [5, 6, 0, 1, 2, 3, 4] (by decide) rfl⟩, hS.F ht⟩) hS.2.2 dX7_copy_29
    · rw [hfq (by omega) (by omega)]
      refine W.eq (g2 := F0 m 12 ls (.ref g0 :: [])) rfl ?_
      refine lv_astore (lv' := [(7, .ref g0), (6, .null), (0, .ref x0), (1, .int s_), (2, .int q_), (3, .int i), (4, .int j), (5, .int n)]) hx hb dX7_copy_12 hl (by decide) rfl (fun ls hl => ?_)
      refine lv_aloadN hx hb dX7_copy_14 (lv_at hl 1 rfl) ?_
      refine lv_ifnullN (tgt := 24) hx hb dX7_copy_16 (by decide) ?_
      refine lv_aload_n hx hb dX7_copy_24 rfl (lv_at hl 2 rfl) ?_
      refine lv_iconst (v := 1) hx hb dX7_copy_25 (by decide) ?_
      skip
      refine zw_V (As := [.int 1]) (rest := []) (wr := [(xs, .inl (cS, 8, .inr (.inr (.inr (.inr fh))))), (h0, .inr (4, [.ref e0, .int he, .int si])), (e0, .inl (cJ, 160, .inr (.inl fe))), (g0, .inr (4, [.ref e1, .int ge, .int gs])), (e1, .inl (cJ, 160, .inr (.inl fe1)))]) ⟨hx, hb, hml, hown, hts⟩ (c_X_refuse_1 l D cI cJ cZ cP cS po x0 xs j0 k0 w0 rd mv xr (im) (lf) fr hy0 hy1 hy2 hy3 H.size) (cwV 1 hts gX7_copy_X7_refuse rfl rfl rfl ⟨rfl, dh_X7_refuse⟩ ⟨Nat.le_of_ble_eq_true rfl, Nat.le_of_ble_eq_true rfl⟩) hK hN (hZ.kept hS) hP hD hS hA [0, 1] [2, 3, 4, 5, 6] rfl rfl (by decide) (by decide) (by decide) (va_recv (q := (RX7, TX7, 9)) hK hP (ci := 7) (q0 := 0) rfl rfl) rfl hl.1 rfl (Nat.le_of_ble_eq_true rfl) dX7_copy_26 ⟨Nat.le_of_ble_eq_true rfl, Nat.le_of_ble_eq_true rfl⟩ (fun r_34 u_35 H locs hr_34 hP hD hS => ?_)
      obtain ⟨q_36, rfl⟩ : ∃ z, z = u_35 := ⟨_, rfl⟩
      have h9R := zRe (ws' := [(xs, .inl (cS, 8, .inr (.inr (.inr (.inr fh))))), (h0, .inr (4, [.ref e0, .int he, .int si])), (e0, .inl (cJ, 160, .inr (.inl fe))), (g0, .inr (4, [.ref e1, .int ge, .int gs])), (e1, .inl (cJ, 160, .inr (.inl fe1))), (x0, .inr (7, [.ref xs, .ref j0, .ref k0, .ref w0, .ref rd, .ref mv, .ref xr, .int im, .int lf])), (xr, .inl (cI, 8, .inl q_36))]) hP hD rfl
      clear hP hD
      obtain ⟨hP, hD⟩ := h9R
      obtain rfl := hr_34
      exact W.iret (v := (-1)) hx hb hr (fun t ht hW => ⟨⟨(-1), (fe1, q_36), rfl, ⟨(show ((-1) : Int32).toInt = zCopR s_.toInt q_.toInt he.toInt ge.toInt si.toInt gs.toInt i.toInt j.toInt n.toInt from by (have k9 : ((-1) : Int32).toInt = -1 := (by decide); unfold zCopR; (repeat (first | rw [if_pos (by omega)] | rw [if_neg (by omega)])) <;> omega)), (show (((-1) : Int32).toInt = 1 → fe1 = va_cpy fe fe1 i.toNatClampNeg j.toNatClampNeg n.toNatClampNeg) from by (have k9 : ((-1) : Int32).toInt = -1 := (by decide); intro h; exfalso; omega)), (show (((-1) : Int32).toInt ≠ 1 → fe1 = fe1) from by (have k9 : ((-1) : Int32).toInt = -1 := (by decide); intro h; exact rfl)), trivial⟩, zRet ht hP hD [5, 6, 0, 1, 2, 3, 4] (by decide) rfl⟩, hS.F ht⟩) hS.2.2 dX7_copy_29
  · rw [hfs (by omega) (by omega)]
    refine W.eq (g2 := F0 m 5 ls (.ref h0 :: [])) rfl ?_
    refine lv_astore (lv' := [(6, .ref h0), (0, .ref x0), (1, .int s_), (2, .int q_), (3, .int i), (4, .int j), (5, .int n)]) hx hb dX7_copy_5 hl (by decide) rfl (fun ls hl => ?_)
    refine lv_aload_n hx hb dX7_copy_7 rfl (lv_at hl 1 rfl) ?_
    refine lv_iload_n hx hb dX7_copy_8 rfl (lv_at hl 3 rfl) ?_
    refine zc_Vq (As := [.int q_]) (rest := []) ⟨hx, hb, hml, hown, hts⟩ (c_X_shelfAt l D cI cJ cZ cP cS po x0 xs j0 k0 w0 rd mv xr (im) (lf) ((fun _ => 0)) fh (q_) hy0 hy1 hy2 hy3) (cwV 1 hts gX7_copy_X7_shelfAt rfl rfl rfl ⟨rfl, dh_X7_shelfAt⟩ ⟨Nat.le_of_ble_eq_true rfl, Nat.le_of_ble_eq_true rfl⟩) hK hN (hZ.kept hS) hP (hP.sub [0, 2] rfl) (va_recv (q := (RX7, TX7, 9)) hK hP (ci := 7) (q0 := 0) rfl rfl) rfl hl.1 rfl (Nat.le_of_ble_eq_true rfl) dX7_copy_9 ⟨Nat.le_of_ble_eq_true rfl, Nat.le_of_ble_eq_true rfl⟩ (fun r_37 hr_37 => ?_)
    rcases hr_37 with ⟨rfl, g_38⟩ | ⟨rfl, g_39, g_40⟩ | ⟨rfl, g_41, g_42⟩
    · refine lv_astoreN (lv' := [(7, .null), (6, .ref h0), (0, .ref x0), (1, .int s_), (2, .int q_), (3, .int i), (4, .int j), (5, .int n)]) hx hb dX7_copy_12 hl (by decide) rfl (fun ls hl => ?_)
      refine lv_aload hx hb dX7_copy_14 (lv_at hl 1 rfl) ?_
      refine lv_ifnull hx hb dX7_copy_16 ?_
      refine lv_aloadN hx hb dX7_copy_19 (lv_at hl 0 rfl) ?_
      refine lv_ifnonnullN hx hb dX7_copy_21 ?_
      refine lv_aload_n hx hb dX7_copy_24 rfl (lv_at hl 2 rfl) ?_
      refine lv_iconst (v := 1) hx hb dX7_copy_25 (by decide) ?_
      skip
      refine zw_V (As := [.int 1]) (rest := []) (wr := [(xs, .inl (cS, 8, .inr (.inr (.inr (.inr fh))))), (h0, .inr (4, [.ref e0, .int he, .int si])), (e0, .inl (cJ, 160, .inr (.inl fe))), (g0, .inr (4, [.ref e1, .int ge, .int gs])), (e1, .inl (cJ, 160, .inr (.inl fe1)))]) ⟨hx, hb, hml, hown, hts⟩ (c_X_refuse_1 l D cI cJ cZ cP cS po x0 xs j0 k0 w0 rd mv xr (im) (lf) fr hy0 hy1 hy2 hy3 H.size) (cwV 1 hts gX7_copy_X7_refuse rfl rfl rfl ⟨rfl, dh_X7_refuse⟩ ⟨Nat.le_of_ble_eq_true rfl, Nat.le_of_ble_eq_true rfl⟩) hK hN (hZ.kept hS) hP hD hS hA [0, 1] [2, 3, 4, 5, 6] rfl rfl (by decide) (by decide) (by decide) (va_recv (q := (RX7, TX7, 9)) hK hP (ci := 7) (q0 := 0) rfl rfl) rfl hl.1 rfl (Nat.le_of_ble_eq_true rfl) dX7_copy_26 ⟨Nat.le_of_ble_eq_true rfl, Nat.le_of_ble_eq_true rfl⟩ (fun r_43 u_44 H locs hr_43 hP hD hS => ?_)
      obtain ⟨q_45, rfl⟩ : ∃ z, z = u_44 := ⟨_, rfl⟩
      have h9R := zRe (ws' := [(xs, .inl (cS, 8, .inr (.inr (.inr (.inr fh))))), (h0, .inr (4, [.ref e0, .int he, .int si])), (e0, .inl (cJ, 160, .inr (.inl fe))), (g0, .inr (4, [.ref e1, .int ge, .int gs])), (e1, .inl (cJ, 160, .inr (.inl fe1))), (x0, .inr (7, [.ref xs, .ref j0, .ref k0, .ref w0, .ref rd, .ref mv, .ref xr, .int im, .int lf])), (xr, .inl (cI, 8, .inl q_45))]) hP hD rfl
      clear hP hD
      obtain ⟨hP, hD⟩ := h9R
      obtain rfl := hr_43
      exact W.iret (v := (-1)) hx hb hr (fun t ht hW => ⟨⟨(-1), (fe1, q_45), rfl, ⟨(show ((-1) : Int32).toInt = zCopR s_.toInt q_.toInt he.toInt ge.toInt si.toInt gs.toInt i.toInt j.toInt n.toInt from by (have k9 : ((-1) : Int32).toInt = -1 := (by decide); unfold zCopR; (repeat (first | rw [if_pos (by omega)] | rw [if_neg (by omega)])) <;> omega)), (show (((-1) : Int32).toInt = 1 → fe1 = va_cpy fe fe1 i.toNatClampNeg j.toNatClampNeg n.toNatClampNeg) from by (have k9 : ((-1) : Int32).toInt = -1 := (by decide); intro h; exfalso; omega)), (show (((-1) : Int32).toInt ≠ 1 → fe1 = fe1) from by (have k9 : ((-1) : Int32).toInt = -1 := (by decide); intro h; exact rfl)), trivial⟩, zRet ht hP hD [5, 6, 0, 1, 2, 3, 4] (by decide) rfl⟩, hS.F ht⟩) hS.2.2 dX7_copy_29
    · refine lv_astoreN (lv' := [(7, .null), (6, .ref h0), (0, .ref x0), (1, .int s_), (2, .int q_), (3, .int i), (4, .int j), (5, .int n)]) hx hb dX7_copy_12 hl (by decide) rfl (fun ls hl => ?_)
      refine lv_aload hx hb dX7_copy_14 (lv_at hl 1 rfl) ?_
      refine lv_ifnull hx hb dX7_copy_16 ?_
      refine lv_aloadN hx hb dX7_copy_19 (lv_at hl 0 rfl) ?_
      refine lv_ifnonnullN hx hb dX7_copy_21 ?_
      refine lv_aload_n hx hb dX7_copy_24 rfl (lv_at hl 2 rfl) ?_
      refine lv_iconst (v := 1) hx hb dX7_copy_25 (by decide) ?_
      skip
      refine zw_V (As := [.int 1]) (rest := []) (wr := [(xs, .inl (cS, 8, .inr (.inr (.inr (.inr fh))))), (h0, .inr (4, [.ref e0, .int he, .int si])), (e0, .inl (cJ, 160, .inr (.inl fe))), (g0, .inr (4, [.ref e1, .int ge, .int gs])), (e1, .inl (cJ, 160, .inr (.inl fe1)))]) ⟨hx, hb, hml, hown, hts⟩ (c_X_refuse_1 l D cI cJ cZ cP cS po x0 xs j0 k0 w0 rd mv xr (im) (lf) fr hy0 hy1 hy2 hy3 H.size) (cwV 1 hts gX7_copy_X7_refuse rfl rfl rfl ⟨rfl, dh_X7_refuse⟩ ⟨Nat.le_of_ble_eq_true rfl, Nat.le_of_ble_eq_true rfl⟩) hK hN (hZ.kept hS) hP hD hS hA [0, 1] [2, 3, 4, 5, 6] rfl rfl (by decide) (by decide) (by decide) (va_recv (q := (RX7, TX7, 9)) hK hP (ci := 7) (q0 := 0) rfl rfl) rfl hl.1 rfl (Nat.le_of_ble_eq_true rfl) dX7_copy_26 ⟨Nat.le_of_ble_eq_true rfl, Nat.le_of_ble_eq_true rfl⟩ (fun r_46 u_47 H locs hr_46 hP hD hS => ?_)
      obtain ⟨q_48, rfl⟩ : ∃ z, z = u_47 := ⟨_, rfl⟩
      have h9R := zRe (ws' := [(xs, .inl (cS, 8, .inr (.inr (.inr (.inr fh))))), (h0, .inr (4, [.ref e0, .int he, .int si])), (e0, .inl (cJ, 160, .inr (.inl fe))), (g0, .inr (4, [.ref e1, .int ge, .int gs])), (e1, .inl (cJ, 160, .inr (.inl fe1))), (x0, .inr (7, [.ref xs, .ref j0, .ref k0, .ref w0, .ref rd, .ref mv, .ref xr, .int im, .int lf])), (xr, .inl (cI, 8, .inl q_48))]) hP hD rfl
      clear hP hD
      obtain ⟨hP, hD⟩ := h9R
      obtain rfl := hr_46
      exact W.iret (v := (-1)) hx hb hr (fun t ht hW => ⟨⟨(-1), (fe1, q_48), rfl, ⟨(show ((-1) : Int32).toInt = zCopR s_.toInt q_.toInt he.toInt ge.toInt si.toInt gs.toInt i.toInt j.toInt n.toInt from by (have k9 : ((-1) : Int32).toInt = -1 := (by decide); unfold zCopR; (repeat (first | rw [if_pos (by omega)] | rw [if_neg (by omega)])) <;> omega)), (show (((-1) : Int32).toInt = 1 → fe1 = va_cpy fe fe1 i.toNatClampNeg j.toNatClampNeg n.toNatClampNeg) from by (have k9 : ((-1) : Int32).toInt = -1 := (by decide); intro h; exfalso; omega)), (show (((-1) : Int32).toInt ≠ 1 → fe1 = fe1) from by (have k9 : ((-1) : Int32).toInt = -1 := (by decide); intro h; exact rfl)), trivial⟩, zRet ht hP hD [5, 6, 0, 1, 2, 3, 4] (by decide) rfl⟩, hS.F ht⟩) hS.2.2 dX7_copy_29
    · rw [hfq (by omega) (by omega)]
      refine W.eq (g2 := F0 m 12 ls (.ref g0 :: [])) rfl ?_
      refine lv_astore (lv' := [(7, .ref g0), (6, .ref h0), (0, .ref x0), (1, .int s_), (2, .int q_), (3, .int i), (4, .int j), (5, .int n)]) hx hb dX7_copy_12 hl (by decide) rfl (fun ls hl => ?_)
      refine lv_aload hx hb dX7_copy_14 (lv_at hl 1 rfl) ?_
      refine lv_ifnull hx hb dX7_copy_16 ?_
      refine lv_aload hx hb dX7_copy_19 (lv_at hl 0 rfl) ?_
      refine lv_ifnonnull (tgt := 30) hx hb dX7_copy_21 (by decide) ?_
      refine lv_aload hx hb dX7_copy_30 (lv_at hl 1 rfl) ?_
      refine zc_V (As := []) (rest := []) ⟨hx, hb, hml, hown, hts⟩ (c_Sh_noRow l D cI cJ cZ cP cS po h0 e0 (he) (si) hy4 hy5 hy6 hy7) (cwV 0 hts gX7_copy_X4_noRow rfl rfl rfl ⟨rfl, dh_X4_noRow⟩ ⟨Nat.le_of_ble_eq_true rfl, Nat.le_of_ble_eq_true rfl⟩) hK hN (hZ.kept hS) hP (hP.sub [3] rfl) (va_recv (q := (RX4, TX4, 3)) hK hP (ci := 4) (q0 := 3) rfl rfl) rfl hl.1 rfl (Nat.le_of_ble_eq_true rfl) dX7_copy_32 ⟨Nat.le_of_ble_eq_true rfl, Nat.le_of_ble_eq_true rfl⟩ (fun r_49 hr_49 => ?_)
      rcases hr_49 with ⟨rfl, g_50, g_51⟩ | ⟨rfl, g_52, g_53⟩ | ⟨rfl, g_54⟩
      · refine lv_istore (lv' := [(8, .int 2), (7, .ref g0), (6, .ref h0), (0, .ref x0), (1, .int s_), (2, .int q_), (3, .int i), (4, .int j), (5, .int n)]) hx hb dX7_copy_35 hl (by decide) rfl (fun ls hl => ?_)
        refine lv_aload hx hb dX7_copy_37 (lv_at hl 1 rfl) ?_
        refine zc_V (As := []) (rest := []) ⟨hx, hb, hml, hown, hts⟩ (c_Sh_noRow l D cI cJ cZ cP cS po g0 e1 (ge) (gs) hy8 hy9 hy10 hy11) (cwV 0 hts gX7_copy_X4_noRow rfl rfl rfl ⟨rfl, dh_X4_noRow⟩ ⟨Nat.le_of_ble_eq_true rfl, Nat.le_of_ble_eq_true rfl⟩) hK hN (hZ.kept hS) hP (hP.sub [5] rfl) (va_recv (q := (RX4, TX4, 3)) hK hP (ci := 4) (q0 := 5) rfl rfl) rfl hl.1 rfl (Nat.le_of_ble_eq_true rfl) dX7_copy_39 ⟨Nat.le_of_ble_eq_true rfl, Nat.le_of_ble_eq_true rfl⟩ (fun r_55 hr_55 => ?_)
        rcases hr_55 with ⟨rfl, g_56, g_57⟩ | ⟨rfl, g_58, g_59⟩ | ⟨rfl, g_60⟩
        · refine lv_istore (lv' := [(9, .int 2), (8, .int 2), (7, .ref g0), (6, .ref h0), (0, .ref x0), (1, .int s_), (2, .int q_), (3, .int i), (4, .int j), (5, .int n)]) hx hb dX7_copy_42 hl (by decide) rfl (fun ls hl => ?_)
          refine lv_iload hx hb dX7_copy_44 (lv_at hl 1 rfl) ?_
          refine lv_if_ne (tgt := 71) hx hb dX7_copy_46 (by decide) (fun c_61 => ?_) (fun c_61 => ?_)
          · refine lv_iconst (v := 0) hx hb dX7_copy_71 (by decide) ?_
            refine lv_istore (lv' := [(10, .int 0), (9, .int 2), (8, .int 2), (7, .ref g0), (6, .ref h0), (0, .ref x0), (1, .int s_), (2, .int q_), (3, .int i), (4, .int j), (5, .int n)]) hx hb dX7_copy_72 hl (by decide) rfl (fun ls hl => ?_)
            refine lv_iload hx hb dX7_copy_74 (lv_at hl 2 rfl) ?_
            refine lv_iconst (v := 2) hx hb dX7_copy_76 (by decide) ?_
            refine lv_icmp_eq (tgt := 91) hx hb dX7_copy_77 (by decide) (fun c_62 => ?_) (fun c_62 => ?_)
            · refine lv_aload_n hx hb dX7_copy_91 rfl (lv_at hl 5 rfl) ?_
              refine lv_iconst (v := 2) hx hb dX7_copy_92 (by decide) ?_
              skip
              refine zw_V (As := [.int 2]) (rest := []) (wr := [(xs, .inl (cS, 8, .inr (.inr (.inr (.inr fh))))), (h0, .inr (4, [.ref e0, .int he, .int si])), (e0, .inl (cJ, 160, .inr (.inl fe))), (g0, .inr (4, [.ref e1, .int ge, .int gs])), (e1, .inl (cJ, 160, .inr (.inl fe1)))]) ⟨hx, hb, hml, hown, hts⟩ (c_X_refuse_2 l D cI cJ cZ cP cS po x0 xs j0 k0 w0 rd mv xr (im) (lf) fr hy0 hy1 hy2 hy3 H.size) (cwV 1 hts gX7_copy_X7_refuse rfl rfl rfl ⟨rfl, dh_X7_refuse⟩ ⟨Nat.le_of_ble_eq_true rfl, Nat.le_of_ble_eq_true rfl⟩) hK hN (hZ.kept hS) hP hD hS hA [0, 1] [2, 3, 4, 5, 6] rfl rfl (by decide) (by decide) (by decide) (va_recv (q := (RX7, TX7, 9)) hK hP (ci := 7) (q0 := 0) rfl rfl) rfl hl.1 rfl (Nat.le_of_ble_eq_true rfl) dX7_copy_93 ⟨Nat.le_of_ble_eq_true rfl, Nat.le_of_ble_eq_true rfl⟩ (fun r_63 u_64 H locs hr_63 hP hD hS => ?_)
              obtain ⟨q_65, rfl⟩ : ∃ z, z = u_64 := ⟨_, rfl⟩
              have h9R := zRe (ws' := [(xs, .inl (cS, 8, .inr (.inr (.inr (.inr fh))))), (h0, .inr (4, [.ref e0, .int he, .int si])), (e0, .inl (cJ, 160, .inr (.inl fe))), (g0, .inr (4, [.ref e1, .int ge, .int gs])), (e1, .inl (cJ, 160, .inr (.inl fe1))), (x0, .inr (7, [.ref xs, .ref j0, .ref k0, .ref w0, .ref rd, .ref mv, .ref xr, .int im, .int lf])), (xr, .inl (cI, 8, .inl q_65))]) hP hD rfl
              clear hP hD
              obtain ⟨hP, hD⟩ := h9R
              obtain rfl := hr_63
              exact W.iret (v := (-2)) hx hb hr (fun t ht hW => ⟨⟨(-2), (fe1, q_65), rfl, ⟨(show ((-2) : Int32).toInt = zCopR s_.toInt q_.toInt he.toInt ge.toInt si.toInt gs.toInt i.toInt j.toInt n.toInt from by (have k9 : ((-2) : Int32).toInt = -2 := (by decide); unfold zCopR; (repeat (first | rw [if_pos (by omega)] | rw [if_neg (by omega)])) <;> omega)), (show (((-2) : Int32).toInt = 1 → fe1 = va_cpy fe fe1 i.toNatClampNeg j.toNatClampNeg n.toNatClampNeg) from by (have k9 : ((-2) : Int32).toInt = -2 := (by decide); intro h; exfalso; omega)), (show (((-2) : Int32).toInt ≠ 1 → fe1 = fe1) from by (have k9 : ((-2) : Int32).toInt = -2 := (by decide); intro h; exact rfl)), trivial⟩, zRet ht hP hD [5, 6, 0, 1, 2, 3, 4] (by decide) rfl⟩, hS.F ht⟩) hS.2.2 dX7_copy_96
            · exact absurd c_62 (by decide)
          · exact absurd c_61 (by decide)
        · refine lv_istore (lv' := [(9, .int 3), (8, .int 2), (7, .ref g0), (6, .ref h0), (0, .ref x0), (1, .int s_), (2, .int q_), (3, .int i), (4, .int j), (5, .int n)]) hx hb dX7_copy_42 hl (by decide) rfl (fun ls hl => ?_)
          refine lv_iload hx hb dX7_copy_44 (lv_at hl 1 rfl) ?_
          refine lv_if_ne (tgt := 71) hx hb dX7_copy_46 (by decide) (fun c_66 => ?_) (fun c_66 => ?_)
          · refine lv_iconst (v := 0) hx hb dX7_copy_71 (by decide) ?_
            refine lv_istore (lv' := [(10, .int 0), (9, .int 3), (8, .int 2), (7, .ref g0), (6, .ref h0), (0, .ref x0), (1, .int s_), (2, .int q_), (3, .int i), (4, .int j), (5, .int n)]) hx hb dX7_copy_72 hl (by decide) rfl (fun ls hl => ?_)
            refine lv_iload hx hb dX7_copy_74 (lv_at hl 2 rfl) ?_
            refine lv_iconst (v := 2) hx hb dX7_copy_76 (by decide) ?_
            refine lv_icmp_eq (tgt := 91) hx hb dX7_copy_77 (by decide) (fun c_67 => ?_) (fun c_67 => ?_)
            · refine lv_aload_n hx hb dX7_copy_91 rfl (lv_at hl 5 rfl) ?_
              refine lv_iconst (v := 2) hx hb dX7_copy_92 (by decide) ?_
              skip
              refine zw_V (As := [.int 2]) (rest := []) (wr := [(xs, .inl (cS, 8, .inr (.inr (.inr (.inr fh))))), (h0, .inr (4, [.ref e0, .int he, .int si])), (e0, .inl (cJ, 160, .inr (.inl fe))), (g0, .inr (4, [.ref e1, .int ge, .int gs])), (e1, .inl (cJ, 160, .inr (.inl fe1)))]) ⟨hx, hb, hml, hown, hts⟩ (c_X_refuse_2 l D cI cJ cZ cP cS po x0 xs j0 k0 w0 rd mv xr (im) (lf) fr hy0 hy1 hy2 hy3 H.size) (cwV 1 hts gX7_copy_X7_refuse rfl rfl rfl ⟨rfl, dh_X7_refuse⟩ ⟨Nat.le_of_ble_eq_true rfl, Nat.le_of_ble_eq_true rfl⟩) hK hN (hZ.kept hS) hP hD hS hA [0, 1] [2, 3, 4, 5, 6] rfl rfl (by decide) (by decide) (by decide) (va_recv (q := (RX7, TX7, 9)) hK hP (ci := 7) (q0 := 0) rfl rfl) rfl hl.1 rfl (Nat.le_of_ble_eq_true rfl) dX7_copy_93 ⟨Nat.le_of_ble_eq_true rfl, Nat.le_of_ble_eq_true rfl⟩ (fun r_68 u_69 H locs hr_68 hP hD hS => ?_)
              obtain ⟨q_70, rfl⟩ : ∃ z, z = u_69 := ⟨_, rfl⟩
              have h9R := zRe (ws' := [(xs, .inl (cS, 8, .inr (.inr (.inr (.inr fh))))), (h0, .inr (4, [.ref e0, .int he, .int si])), (e0, .inl (cJ, 160, .inr (.inl fe))), (g0, .inr (4, [.ref e1, .int ge, .int gs])), (e1, .inl (cJ, 160, .inr (.inl fe1))), (x0, .inr (7, [.ref xs, .ref j0, .ref k0, .ref w0, .ref rd, .ref mv, .ref xr, .int im, .int lf])), (xr, .inl (cI, 8, .inl q_70))]) hP hD rfl
              clear hP hD
              obtain ⟨hP, hD⟩ := h9R
              obtain rfl := hr_68
              exact W.iret (v := (-2)) hx hb hr (fun t ht hW => ⟨⟨(-2), (fe1, q_70), rfl, ⟨(show ((-2) : Int32).toInt = zCopR s_.toInt q_.toInt he.toInt ge.toInt si.toInt gs.toInt i.toInt j.toInt n.toInt from by (have k9 : ((-2) : Int32).toInt = -2 := (by decide); unfold zCopR; (repeat (first | rw [if_pos (by omega)] | rw [if_neg (by omega)])) <;> omega)), (show (((-2) : Int32).toInt = 1 → fe1 = va_cpy fe fe1 i.toNatClampNeg j.toNatClampNeg n.toNatClampNeg) from by (have k9 : ((-2) : Int32).toInt = -2 := (by decide); intro h; exfalso; omega)), (show (((-2) : Int32).toInt ≠ 1 → fe1 = fe1) from by (have k9 : ((-2) : Int32).toInt = -2 := (by decide); intro h; exact rfl)), trivial⟩, zRet ht hP hD [5, 6, 0, 1, 2, 3, 4] (by decide) rfl⟩, hS.F ht⟩) hS.2.2 dX7_copy_96
            · exact absurd c_67 (by decide)
          · exact absurd c_66 (by decide)
        · refine lv_istore (lv' := [(9, .int 0), (8, .int 2), (7, .ref g0), (6, .ref h0), (0, .ref x0), (1, .int s_), (2, .int q_), (3, .int i), (4, .int j), (5, .int n)]) hx hb dX7_copy_42 hl (by decide) rfl (fun ls hl => ?_)
          refine lv_iload hx hb dX7_copy_44 (lv_at hl 1 rfl) ?_
          refine lv_if_ne (tgt := 71) hx hb dX7_copy_46 (by decide) (fun c_71 => ?_) (fun c_71 => ?_)
          · refine lv_iconst (v := 0) hx hb dX7_copy_71 (by decide) ?_
            refine lv_istore (lv' := [(10, .int 0), (9, .int 0), (8, .int 2), (7, .ref g0), (6, .ref h0), (0, .ref x0), (1, .int s_), (2, .int q_), (3, .int i), (4, .int j), (5, .int n)]) hx hb dX7_copy_72 hl (by decide) rfl (fun ls hl => ?_)
            refine lv_iload hx hb dX7_copy_74 (lv_at hl 2 rfl) ?_
            refine lv_iconst (v := 2) hx hb dX7_copy_76 (by decide) ?_
            refine lv_icmp_eq (tgt := 91) hx hb dX7_copy_77 (by decide) (fun c_72 => ?_) (fun c_72 => ?_)
            · refine lv_aload_n hx hb dX7_copy_91 rfl (lv_at hl 5 rfl) ?_
              refine lv_iconst (v := 2) hx hb dX7_copy_92 (by decide) ?_
              skip
              refine zw_V (As := [.int 2]) (rest := []) (wr := [(xs, .inl (cS, 8, .inr (.inr (.inr (.inr fh))))), (h0, .inr (4, [.ref e0, .int he, .int si])), (e0, .inl (cJ, 160, .inr (.inl fe))), (g0, .inr (4, [.ref e1, .int ge, .int gs])), (e1, .inl (cJ, 160, .inr (.inl fe1)))]) ⟨hx, hb, hml, hown, hts⟩ (c_X_refuse_2 l D cI cJ cZ cP cS po x0 xs j0 k0 w0 rd mv xr (im) (lf) fr hy0 hy1 hy2 hy3 H.size) (cwV 1 hts gX7_copy_X7_refuse rfl rfl rfl ⟨rfl, dh_X7_refuse⟩ ⟨Nat.le_of_ble_eq_true rfl, Nat.le_of_ble_eq_true rfl⟩) hK hN (hZ.kept hS) hP hD hS hA [0, 1] [2, 3, 4, 5, 6] rfl rfl (by decide) (by decide) (by decide) (va_recv (q := (RX7, TX7, 9)) hK hP (ci := 7) (q0 := 0) rfl rfl) rfl hl.1 rfl (Nat.le_of_ble_eq_true rfl) dX7_copy_93 ⟨Nat.le_of_ble_eq_true rfl, Nat.le_of_ble_eq_true rfl⟩ (fun r_73 u_74 H locs hr_73 hP hD hS => ?_)
              obtain ⟨q_75, rfl⟩ : ∃ z, z = u_74 := ⟨_, rfl⟩
              have h9R := zRe (ws' := [(xs, .inl (cS, 8, .inr (.inr (.inr (.inr fh))))), (h0, .inr (4, [.ref e0, .int he, .int si])), (e0, .inl (cJ, 160, .inr (.inl fe))), (g0, .inr (4, [.ref e1, .int ge, .int gs])), (e1, .inl (cJ, 160, .inr (.inl fe1))), (x0, .inr (7, [.ref xs, .ref j0, .ref k0, .ref w0, .ref rd, .ref mv, .ref xr, .int im, .int lf])), (xr, .inl (cI, 8, .inl q_75))]) hP hD rfl
              clear hP hD
              obtain ⟨hP, hD⟩ := h9R
              obtain rfl := hr_73
              exact W.iret (v := (-2)) hx hb hr (fun t ht hW => ⟨⟨(-2), (fe1, q_75), rfl, ⟨(show ((-2) : Int32).toInt = zCopR s_.toInt q_.toInt he.toInt ge.toInt si.toInt gs.toInt i.toInt j.toInt n.toInt from by (have k9 : ((-2) : Int32).toInt = -2 := (by decide); unfold zCopR; (repeat (first | rw [if_pos (by omega)] | rw [if_neg (by omega)])) <;> omega)), (show (((-2) : Int32).toInt = 1 → fe1 = va_cpy fe fe1 i.toNatClampNeg j.toNatClampNeg n.toNatClampNeg) from by (have k9 : ((-2) : Int32).toInt = -2 := (by decide); intro h; exfalso; omega)), (show (((-2) : Int32).toInt ≠ 1 → fe1 = fe1) from by (have k9 : ((-2) : Int32).toInt = -2 := (by decide); intro h; exact rfl)), trivial⟩, zRet ht hP hD [5, 6, 0, 1, 2, 3, 4] (by decide) rfl⟩, hS.F ht⟩) hS.2.2 dX7_copy_96
            · exact absurd c_72 (by decide)
          · exact absurd c_71 (by decide)
      · refine lv_istore (lv' := [(8, .int 3), (7, .ref g0), (6, .ref h0), (0, .ref x0), (1, .int s_), (2, .int q_), (3, .int i), (4, .int j), (5, .int n)]) hx hb dX7_copy_35 hl (by decide) rfl (fun ls hl => ?_)
        refine lv_aload hx hb dX7_copy_37 (lv_at hl 1 rfl) ?_
        refine zc_V (As := []) (rest := []) ⟨hx, hb, hml, hown, hts⟩ (c_Sh_noRow l D cI cJ cZ cP cS po g0 e1 (ge) (gs) hy8 hy9 hy10 hy11) (cwV 0 hts gX7_copy_X4_noRow rfl rfl rfl ⟨rfl, dh_X4_noRow⟩ ⟨Nat.le_of_ble_eq_true rfl, Nat.le_of_ble_eq_true rfl⟩) hK hN (hZ.kept hS) hP (hP.sub [5] rfl) (va_recv (q := (RX4, TX4, 3)) hK hP (ci := 4) (q0 := 5) rfl rfl) rfl hl.1 rfl (Nat.le_of_ble_eq_true rfl) dX7_copy_39 ⟨Nat.le_of_ble_eq_true rfl, Nat.le_of_ble_eq_true rfl⟩ (fun r_76 hr_76 => ?_)
        rcases hr_76 with ⟨rfl, g_77, g_78⟩ | ⟨rfl, g_79, g_80⟩ | ⟨rfl, g_81⟩
        · refine lv_istore (lv' := [(9, .int 2), (8, .int 3), (7, .ref g0), (6, .ref h0), (0, .ref x0), (1, .int s_), (2, .int q_), (3, .int i), (4, .int j), (5, .int n)]) hx hb dX7_copy_42 hl (by decide) rfl (fun ls hl => ?_)
          refine lv_iload hx hb dX7_copy_44 (lv_at hl 1 rfl) ?_
          refine lv_if_ne (tgt := 71) hx hb dX7_copy_46 (by decide) (fun c_82 => ?_) (fun c_82 => ?_)
          · refine lv_iconst (v := 0) hx hb dX7_copy_71 (by decide) ?_
            refine lv_istore (lv' := [(10, .int 0), (9, .int 2), (8, .int 3), (7, .ref g0), (6, .ref h0), (0, .ref x0), (1, .int s_), (2, .int q_), (3, .int i), (4, .int j), (5, .int n)]) hx hb dX7_copy_72 hl (by decide) rfl (fun ls hl => ?_)
            refine lv_iload hx hb dX7_copy_74 (lv_at hl 2 rfl) ?_
            refine lv_iconst (v := 2) hx hb dX7_copy_76 (by decide) ?_
            refine lv_icmp_eq (tgt := 91) hx hb dX7_copy_77 (by decide) (fun c_83 => ?_) (fun c_83 => ?_)
            · exact absurd c_83 (by decide)
            · refine lv_iload hx hb dX7_copy_80 (lv_at hl 1 rfl) ?_
              refine lv_iconst (v := 2) hx hb dX7_copy_82 (by decide) ?_
              refine lv_icmp_eq (tgt := 91) hx hb dX7_copy_83 (by decide) (fun c_84 => ?_) (fun c_84 => ?_)
              · refine lv_aload_n hx hb dX7_copy_91 rfl (lv_at hl 5 rfl) ?_
                refine lv_iconst (v := 2) hx hb dX7_copy_92 (by decide) ?_
                skip
                refine zw_V (As := [.int 2]) (rest := []) (wr := [(xs, .inl (cS, 8, .inr (.inr (.inr (.inr fh))))), (h0, .inr (4, [.ref e0, .int he, .int si])), (e0, .inl (cJ, 160, .inr (.inl fe))), (g0, .inr (4, [.ref e1, .int ge, .int gs])), (e1, .inl (cJ, 160, .inr (.inl fe1)))]) ⟨hx, hb, hml, hown, hts⟩ (c_X_refuse_2 l D cI cJ cZ cP cS po x0 xs j0 k0 w0 rd mv xr (im) (lf) fr hy0 hy1 hy2 hy3 H.size) (cwV 1 hts gX7_copy_X7_refuse rfl rfl rfl ⟨rfl, dh_X7_refuse⟩ ⟨Nat.le_of_ble_eq_true rfl, Nat.le_of_ble_eq_true rfl⟩) hK hN (hZ.kept hS) hP hD hS hA [0, 1] [2, 3, 4, 5, 6] rfl rfl (by decide) (by decide) (by decide) (va_recv (q := (RX7, TX7, 9)) hK hP (ci := 7) (q0 := 0) rfl rfl) rfl hl.1 rfl (Nat.le_of_ble_eq_true rfl) dX7_copy_93 ⟨Nat.le_of_ble_eq_true rfl, Nat.le_of_ble_eq_true rfl⟩ (fun r_85 u_86 H locs hr_85 hP hD hS => ?_)
                obtain ⟨q_87, rfl⟩ : ∃ z, z = u_86 := ⟨_, rfl⟩
                have h9R := zRe (ws' := [(xs, .inl (cS, 8, .inr (.inr (.inr (.inr fh))))), (h0, .inr (4, [.ref e0, .int he, .int si])), (e0, .inl (cJ, 160, .inr (.inl fe))), (g0, .inr (4, [.ref e1, .int ge, .int gs])), (e1, .inl (cJ, 160, .inr (.inl fe1))), (x0, .inr (7, [.ref xs, .ref j0, .ref k0, .ref w0, .ref rd, .ref mv, .ref xr, .int im, .int lf])), (xr, .inl (cI, 8, .inl q_87))]) hP hD rfl
                clear hP hD
                obtain ⟨hP, hD⟩ := h9R
                obtain rfl := hr_85
                exact W.iret (v := (-2)) hx hb hr (fun t ht hW => ⟨⟨(-2), (fe1, q_87), rfl, ⟨(show ((-2) : Int32).toInt = zCopR s_.toInt q_.toInt he.toInt ge.toInt si.toInt gs.toInt i.toInt j.toInt n.toInt from by (have k9 : ((-2) : Int32).toInt = -2 := (by decide); unfold zCopR; (repeat (first | rw [if_pos (by omega)] | rw [if_neg (by omega)])) <;> omega)), (show (((-2) : Int32).toInt = 1 → fe1 = va_cpy fe fe1 i.toNatClampNeg j.toNatClampNeg n.toNatClampNeg) from by (have k9 : ((-2) : Int32).toInt = -2 := (by decide); intro h; exfalso; omega)), (show (((-2) : Int32).toInt ≠ 1 → fe1 = fe1) from by (have k9 : ((-2) : Int32).toInt = -2 := (by decide); intro h; exact rfl)), trivial⟩, zRet ht hP hD [5, 6, 0, 1, 2, 3, 4] (by decide) rfl⟩, hS.F ht⟩) hS.2.2 dX7_copy_96
              · exact absurd c_84 (by decide)
          · exact absurd c_82 (by decide)
        · refine lv_istore (lv' := [(9, .int 3), (8, .int 3), (7, .ref g0), (6, .ref h0), (0, .ref x0), (1, .int s_), (2, .int q_), (3, .int i), (4, .int j), (5, .int n)]) hx hb dX7_copy_42 hl (by decide) rfl (fun ls hl => ?_)
          refine lv_iload hx hb dX7_copy_44 (lv_at hl 1 rfl) ?_
          refine lv_if_ne (tgt := 71) hx hb dX7_copy_46 (by decide) (fun c_88 => ?_) (fun c_88 => ?_)
          · refine lv_iconst (v := 0) hx hb dX7_copy_71 (by decide) ?_
            refine lv_istore (lv' := [(10, .int 0), (9, .int 3), (8, .int 3), (7, .ref g0), (6, .ref h0), (0, .ref x0), (1, .int s_), (2, .int q_), (3, .int i), (4, .int j), (5, .int n)]) hx hb dX7_copy_72 hl (by decide) rfl (fun ls hl => ?_)
            refine lv_iload hx hb dX7_copy_74 (lv_at hl 2 rfl) ?_
            refine lv_iconst (v := 2) hx hb dX7_copy_76 (by decide) ?_
            refine lv_icmp_eq (tgt := 91) hx hb dX7_copy_77 (by decide) (fun c_89 => ?_) (fun c_89 => ?_)
            · exact absurd c_89 (by decide)
            · refine lv_iload hx hb dX7_copy_80 (lv_at hl 1 rfl) ?_
              refine lv_iconst (v := 2) hx hb dX7_copy_82 (by decide) ?_
              refine lv_icmp_eq (tgt := 91) hx hb dX7_copy_83 (by decide) (fun c_90 => ?_) (fun c_90 => ?_)
              · exact absurd c_90 (by decide)
              · refine lv_iload hx hb dX7_copy_86 (lv_at hl 0 rfl) ?_
                refine lv_if_eq (tgt := 97) hx hb dX7_copy_88 (by decide) (fun c_91 => ?_) (fun c_91 => ?_)
                · refine lv_iload hx hb dX7_copy_97 (lv_at hl 2 rfl) ?_
                  refine lv_iconst (v := 3) hx hb dX7_copy_99 (by decide) ?_
                  refine lv_icmp_eq (tgt := 109) hx hb dX7_copy_100 (by decide) (fun c_92 => ?_) (fun c_92 => ?_)
                  · refine lv_aload_n hx hb dX7_copy_109 rfl (lv_at hl 5 rfl) ?_
                    refine lv_iconst (v := 3) hx hb dX7_copy_110 (by decide) ?_
                    skip
                    refine zw_V (As := [.int 3]) (rest := []) (wr := [(xs, .inl (cS, 8, .inr (.inr (.inr (.inr fh))))), (h0, .inr (4, [.ref e0, .int he, .int si])), (e0, .inl (cJ, 160, .inr (.inl fe))), (g0, .inr (4, [.ref e1, .int ge, .int gs])), (e1, .inl (cJ, 160, .inr (.inl fe1)))]) ⟨hx, hb, hml, hown, hts⟩ (c_X_refuse_3 l D cI cJ cZ cP cS po x0 xs j0 k0 w0 rd mv xr (im) (lf) fr hy0 hy1 hy2 hy3 H.size) (cwV 1 hts gX7_copy_X7_refuse rfl rfl rfl ⟨rfl, dh_X7_refuse⟩ ⟨Nat.le_of_ble_eq_true rfl, Nat.le_of_ble_eq_true rfl⟩) hK hN (hZ.kept hS) hP hD hS hA [0, 1] [2, 3, 4, 5, 6] rfl rfl (by decide) (by decide) (by decide) (va_recv (q := (RX7, TX7, 9)) hK hP (ci := 7) (q0 := 0) rfl rfl) rfl hl.1 rfl (Nat.le_of_ble_eq_true rfl) dX7_copy_111 ⟨Nat.le_of_ble_eq_true rfl, Nat.le_of_ble_eq_true rfl⟩ (fun r_93 u_94 H locs hr_93 hP hD hS => ?_)
                    obtain ⟨q_95, rfl⟩ : ∃ z, z = u_94 := ⟨_, rfl⟩
                    have h9R := zRe (ws' := [(xs, .inl (cS, 8, .inr (.inr (.inr (.inr fh))))), (h0, .inr (4, [.ref e0, .int he, .int si])), (e0, .inl (cJ, 160, .inr (.inl fe))), (g0, .inr (4, [.ref e1, .int ge, .int gs])), (e1, .inl (cJ, 160, .inr (.inl fe1))), (x0, .inr (7, [.ref xs, .ref j0, .ref k0, .ref w0, .ref rd, .ref mv, .ref xr, .int im, .int lf])), (xr, .inl (cI, 8, .inl q_95))]) hP hD rfl
                    clear hP hD
                    obtain ⟨hP, hD⟩ := h9R
                    obtain rfl := hr_93
                    exact W.iret (v := (-3)) hx hb hr (fun t ht hW => ⟨⟨(-3), (fe1, q_95), rfl, ⟨(show ((-3) : Int32).toInt = zCopR s_.toInt q_.toInt he.toInt ge.toInt si.toInt gs.toInt i.toInt j.toInt n.toInt from by (have k9 : ((-3) : Int32).toInt = -3 := (by decide); unfold zCopR; (repeat (first | rw [if_pos (by omega)] | rw [if_neg (by omega)])) <;> omega)), (show (((-3) : Int32).toInt = 1 → fe1 = va_cpy fe fe1 i.toNatClampNeg j.toNatClampNeg n.toNatClampNeg) from by (have k9 : ((-3) : Int32).toInt = -3 := (by decide); intro h; exfalso; omega)), (show (((-3) : Int32).toInt ≠ 1 → fe1 = fe1) from by (have k9 : ((-3) : Int32).toInt = -3 := (by decide); intro h; exact rfl)), trivial⟩, zRet ht hP hD [5, 6, 0, 1, 2, 3, 4] (by decide) rfl⟩, hS.F ht⟩) hS.2.2 dX7_copy_114
                  · exact absurd c_92 (by decide)
                · exact absurd c_91 (by decide)
          · exact absurd c_88 (by decide)
        · refine lv_istore (lv' := [(9, .int 0), (8, .int 3), (7, .ref g0), (6, .ref h0), (0, .ref x0), (1, .int s_), (2, .int q_), (3, .int i), (4, .int j), (5, .int n)]) hx hb dX7_copy_42 hl (by decide) rfl (fun ls hl => ?_)
          refine lv_iload hx hb dX7_copy_44 (lv_at hl 1 rfl) ?_
          refine lv_if_ne (tgt := 71) hx hb dX7_copy_46 (by decide) (fun c_96 => ?_) (fun c_96 => ?_)
          · refine lv_iconst (v := 0) hx hb dX7_copy_71 (by decide) ?_
            refine lv_istore (lv' := [(10, .int 0), (9, .int 0), (8, .int 3), (7, .ref g0), (6, .ref h0), (0, .ref x0), (1, .int s_), (2, .int q_), (3, .int i), (4, .int j), (5, .int n)]) hx hb dX7_copy_72 hl (by decide) rfl (fun ls hl => ?_)
            refine lv_iload hx hb dX7_copy_74 (lv_at hl 2 rfl) ?_
            refine lv_iconst (v := 2) hx hb dX7_copy_76 (by decide) ?_
            refine lv_icmp_eq (tgt := 91) hx hb dX7_copy_77 (by decide) (fun c_97 => ?_) (fun c_97 => ?_)
            · exact absurd c_97 (by decide)
            · refine lv_iload hx hb dX7_copy_80 (lv_at hl 1 rfl) ?_
              refine lv_iconst (v := 2) hx hb dX7_copy_82 (by decide) ?_
              refine lv_icmp_eq (tgt := 91) hx hb dX7_copy_83 (by decide) (fun c_98 => ?_) (fun c_98 => ?_)
              · exact absurd c_98 (by decide)
              · refine lv_iload hx hb dX7_copy_86 (lv_at hl 0 rfl) ?_
                refine lv_if_eq (tgt := 97) hx hb dX7_copy_88 (by decide) (fun c_99 => ?_) (fun c_99 => ?_)
                · refine lv_iload hx hb dX7_copy_97 (lv_at hl 2 rfl) ?_
                  refine lv_iconst (v := 3) hx hb dX7_copy_99 (by decide) ?_
                  refine lv_icmp_eq (tgt := 109) hx hb dX7_copy_100 (by decide) (fun c_100 => ?_) (fun c_100 => ?_)
                  · refine lv_aload_n hx hb dX7_copy_109 rfl (lv_at hl 5 rfl) ?_
                    refine lv_iconst (v := 3) hx hb dX7_copy_110 (by decide) ?_
                    skip
                    refine zw_V (As := [.int 3]) (rest := []) (wr := [(xs, .inl (cS, 8, .inr (.inr (.inr (.inr fh))))), (h0, .inr (4, [.ref e0, .int he, .int si])), (e0, .inl (cJ, 160, .inr (.inl fe))), (g0, .inr (4, [.ref e1, .int ge, .int gs])), (e1, .inl (cJ, 160, .inr (.inl fe1)))]) ⟨hx, hb, hml, hown, hts⟩ (c_X_refuse_3 l D cI cJ cZ cP cS po x0 xs j0 k0 w0 rd mv xr (im) (lf) fr hy0 hy1 hy2 hy3 H.size) (cwV 1 hts gX7_copy_X7_refuse rfl rfl rfl ⟨rfl, dh_X7_refuse⟩ ⟨Nat.le_of_ble_eq_true rfl, Nat.le_of_ble_eq_true rfl⟩) hK hN (hZ.kept hS) hP hD hS hA [0, 1] [2, 3, 4, 5, 6] rfl rfl (by decide) (by decide) (by decide) (va_recv (q := (RX7, TX7, 9)) hK hP (ci := 7) (q0 := 0) rfl rfl) rfl hl.1 rfl (Nat.le_of_ble_eq_true rfl) dX7_copy_111 ⟨Nat.le_of_ble_eq_true rfl, Nat.le_of_ble_eq_true rfl⟩ (fun r_101 u_102 H locs hr_101 hP hD hS => ?_)
                    obtain ⟨q_103, rfl⟩ : ∃ z, z = u_102 := ⟨_, rfl⟩
                    have h9R := zRe (ws' := [(xs, .inl (cS, 8, .inr (.inr (.inr (.inr fh))))), (h0, .inr (4, [.ref e0, .int he, .int si])), (e0, .inl (cJ, 160, .inr (.inl fe))), (g0, .inr (4, [.ref e1, .int ge, .int gs])), (e1, .inl (cJ, 160, .inr (.inl fe1))), (x0, .inr (7, [.ref xs, .ref j0, .ref k0, .ref w0, .ref rd, .ref mv, .ref xr, .int im, .int lf])), (xr, .inl (cI, 8, .inl q_103))]) hP hD rfl
                    clear hP hD
                    obtain ⟨hP, hD⟩ := h9R
                    obtain rfl := hr_101
                    exact W.iret (v := (-3)) hx hb hr (fun t ht hW => ⟨⟨(-3), (fe1, q_103), rfl, ⟨(show ((-3) : Int32).toInt = zCopR s_.toInt q_.toInt he.toInt ge.toInt si.toInt gs.toInt i.toInt j.toInt n.toInt from by (have k9 : ((-3) : Int32).toInt = -3 := (by decide); unfold zCopR; (repeat (first | rw [if_pos (by omega)] | rw [if_neg (by omega)])) <;> omega)), (show (((-3) : Int32).toInt = 1 → fe1 = va_cpy fe fe1 i.toNatClampNeg j.toNatClampNeg n.toNatClampNeg) from by (have k9 : ((-3) : Int32).toInt = -3 := (by decide); intro h; exfalso; omega)), (show (((-3) : Int32).toInt ≠ 1 → fe1 = fe1) from by (have k9 : ((-3) : Int32).toInt = -3 := (by decide); intro h; exact rfl)), trivial⟩, zRet ht hP hD [5, 6, 0, 1, 2, 3, 4] (by decide) rfl⟩, hS.F ht⟩) hS.2.2 dX7_copy_114
                  · exact absurd c_100 (by decide)
                · exact absurd c_99 (by decide)
          · exact absurd c_96 (by decide)
      · refine lv_istore (lv' := [(8, .int 0), (7, .ref g0), (6, .ref h0), (0, .ref x0), (1, .int s_), (2, .int q_), (3, .int i), (4, .int j), (5, .int n)]) hx hb dX7_copy_35 hl (by decide) rfl (fun ls hl => ?_)
        refine lv_aload hx hb dX7_copy_37 (lv_at hl 1 rfl) ?_
        refine zc_V (As := []) (rest := []) ⟨hx, hb, hml, hown, hts⟩ (c_Sh_noRow l D cI cJ cZ cP cS po g0 e1 (ge) (gs) hy8 hy9 hy10 hy11) (cwV 0 hts gX7_copy_X4_noRow rfl rfl rfl ⟨rfl, dh_X4_noRow⟩ ⟨Nat.le_of_ble_eq_true rfl, Nat.le_of_ble_eq_true rfl⟩) hK hN (hZ.kept hS) hP (hP.sub [5] rfl) (va_recv (q := (RX4, TX4, 3)) hK hP (ci := 4) (q0 := 5) rfl rfl) rfl hl.1 rfl (Nat.le_of_ble_eq_true rfl) dX7_copy_39 ⟨Nat.le_of_ble_eq_true rfl, Nat.le_of_ble_eq_true rfl⟩ (fun r_104 hr_104 => ?_)
        rcases hr_104 with ⟨rfl, g_105, g_106⟩ | ⟨rfl, g_107, g_108⟩ | ⟨rfl, g_109⟩
        · refine lv_istore (lv' := [(9, .int 2), (8, .int 0), (7, .ref g0), (6, .ref h0), (0, .ref x0), (1, .int s_), (2, .int q_), (3, .int i), (4, .int j), (5, .int n)]) hx hb dX7_copy_42 hl (by decide) rfl (fun ls hl => ?_)
          refine lv_iload hx hb dX7_copy_44 (lv_at hl 1 rfl) ?_
          refine lv_if_ne (tgt := 71) hx hb dX7_copy_46 (by decide) (fun c_110 => ?_) (fun c_110 => ?_)
          · exact absurd c_110 (by decide)
          · refine lv_iload hx hb dX7_copy_49 (lv_at hl 0 rfl) ?_
            refine lv_if_ne (tgt := 71) hx hb dX7_copy_51 (by decide) (fun c_111 => ?_) (fun c_111 => ?_)
            · refine lv_iconst (v := 0) hx hb dX7_copy_71 (by decide) ?_
              refine lv_istore (lv' := [(10, .int 0), (9, .int 2), (8, .int 0), (7, .ref g0), (6, .ref h0), (0, .ref x0), (1, .int s_), (2, .int q_), (3, .int i), (4, .int j), (5, .int n)]) hx hb dX7_copy_72 hl (by decide) rfl (fun ls hl => ?_)
              refine lv_iload hx hb dX7_copy_74 (lv_at hl 2 rfl) ?_
              refine lv_iconst (v := 2) hx hb dX7_copy_76 (by decide) ?_
              refine lv_icmp_eq (tgt := 91) hx hb dX7_copy_77 (by decide) (fun c_112 => ?_) (fun c_112 => ?_)
              · exact absurd c_112 (by decide)
              · refine lv_iload hx hb dX7_copy_80 (lv_at hl 1 rfl) ?_
                refine lv_iconst (v := 2) hx hb dX7_copy_82 (by decide) ?_
                refine lv_icmp_eq (tgt := 91) hx hb dX7_copy_83 (by decide) (fun c_113 => ?_) (fun c_113 => ?_)
                · refine lv_aload_n hx hb dX7_copy_91 rfl (lv_at hl 5 rfl) ?_
                  refine lv_iconst (v := 2) hx hb dX7_copy_92 (by decide) ?_
                  skip
                  refine zw_V (As := [.int 2]) (rest := []) (wr := [(xs, .inl (cS, 8, .inr (.inr (.inr (.inr fh))))), (h0, .inr (4, [.ref e0, .int he, .int si])), (e0, .inl (cJ, 160, .inr (.inl fe))), (g0, .inr (4, [.ref e1, .int ge, .int gs])), (e1, .inl (cJ, 160, .inr (.inl fe1)))]) ⟨hx, hb, hml, hown, hts⟩ (c_X_refuse_2 l D cI cJ cZ cP cS po x0 xs j0 k0 w0 rd mv xr (im) (lf) fr hy0 hy1 hy2 hy3 H.size) (cwV 1 hts gX7_copy_X7_refuse rfl rfl rfl ⟨rfl, dh_X7_refuse⟩ ⟨Nat.le_of_ble_eq_true rfl, Nat.le_of_ble_eq_true rfl⟩) hK hN (hZ.kept hS) hP hD hS hA [0, 1] [2, 3, 4, 5, 6] rfl rfl (by decide) (by decide) (by decide) (va_recv (q := (RX7, TX7, 9)) hK hP (ci := 7) (q0 := 0) rfl rfl) rfl hl.1 rfl (Nat.le_of_ble_eq_true rfl) dX7_copy_93 ⟨Nat.le_of_ble_eq_true rfl, Nat.le_of_ble_eq_true rfl⟩ (fun r_114 u_115 H locs hr_114 hP hD hS => ?_)
                  obtain ⟨q_116, rfl⟩ : ∃ z, z = u_115 := ⟨_, rfl⟩
                  have h9R := zRe (ws' := [(xs, .inl (cS, 8, .inr (.inr (.inr (.inr fh))))), (h0, .inr (4, [.ref e0, .int he, .int si])), (e0, .inl (cJ, 160, .inr (.inl fe))), (g0, .inr (4, [.ref e1, .int ge, .int gs])), (e1, .inl (cJ, 160, .inr (.inl fe1))), (x0, .inr (7, [.ref xs, .ref j0, .ref k0, .ref w0, .ref rd, .ref mv, .ref xr, .int im, .int lf])), (xr, .inl (cI, 8, .inl q_116))]) hP hD rfl
                  clear hP hD
                  obtain ⟨hP, hD⟩ := h9R
                  obtain rfl := hr_114
                  exact W.iret (v := (-2)) hx hb hr (fun t ht hW => ⟨⟨(-2), (fe1, q_116), rfl, ⟨(show ((-2) : Int32).toInt = zCopR s_.toInt q_.toInt he.toInt ge.toInt si.toInt gs.toInt i.toInt j.toInt n.toInt from by (have k9 : ((-2) : Int32).toInt = -2 := (by decide); unfold zCopR; (repeat (first | rw [if_pos (by omega)] | rw [if_neg (by omega)])) <;> omega)), (show (((-2) : Int32).toInt = 1 → fe1 = va_cpy fe fe1 i.toNatClampNeg j.toNatClampNeg n.toNatClampNeg) from by (have k9 : ((-2) : Int32).toInt = -2 := (by decide); intro h; exfalso; omega)), (show (((-2) : Int32).toInt ≠ 1 → fe1 = fe1) from by (have k9 : ((-2) : Int32).toInt = -2 := (by decide); intro h; exact rfl)), trivial⟩, zRet ht hP hD [5, 6, 0, 1, 2, 3, 4] (by decide) rfl⟩, hS.F ht⟩) hS.2.2 dX7_copy_96
                · exact absurd c_113 (by decide)
            · exact absurd c_111 (by decide)
        · refine lv_istore (lv' := [(9, .int 3), (8, .int 0), (7, .ref g0), (6, .ref h0), (0, .ref x0), (1, .int s_), (2, .int q_), (3, .int i), (4, .int j), (5, .int n)]) hx hb dX7_copy_42 hl (by decide) rfl (fun ls hl => ?_)
          refine lv_iload hx hb dX7_copy_44 (lv_at hl 1 rfl) ?_
          refine lv_if_ne (tgt := 71) hx hb dX7_copy_46 (by decide) (fun c_117 => ?_) (fun c_117 => ?_)
          · exact absurd c_117 (by decide)
          · refine lv_iload hx hb dX7_copy_49 (lv_at hl 0 rfl) ?_
            refine lv_if_ne (tgt := 71) hx hb dX7_copy_51 (by decide) (fun c_118 => ?_) (fun c_118 => ?_)
            · refine lv_iconst (v := 0) hx hb dX7_copy_71 (by decide) ?_
              refine lv_istore (lv' := [(10, .int 0), (9, .int 3), (8, .int 0), (7, .ref g0), (6, .ref h0), (0, .ref x0), (1, .int s_), (2, .int q_), (3, .int i), (4, .int j), (5, .int n)]) hx hb dX7_copy_72 hl (by decide) rfl (fun ls hl => ?_)
              refine lv_iload hx hb dX7_copy_74 (lv_at hl 2 rfl) ?_
              refine lv_iconst (v := 2) hx hb dX7_copy_76 (by decide) ?_
              refine lv_icmp_eq (tgt := 91) hx hb dX7_copy_77 (by decide) (fun c_119 => ?_) (fun c_119 => ?_)
              · exact absurd c_119 (by decide)
              · refine lv_iload hx hb dX7_copy_80 (lv_at hl 1 rfl) ?_
                refine lv_iconst (v := 2) hx hb dX7_copy_82 (by decide) ?_
                refine lv_icmp_eq (tgt := 91) hx hb dX7_copy_83 (by decide) (fun c_120 => ?_) (fun c_120 => ?_)
                · exact absurd c_120 (by decide)
                · refine lv_iload hx hb dX7_copy_86 (lv_at hl 0 rfl) ?_
                  refine lv_if_eq (tgt := 97) hx hb dX7_copy_88 (by decide) (fun c_121 => ?_) (fun c_121 => ?_)
                  · refine lv_iload hx hb dX7_copy_97 (lv_at hl 2 rfl) ?_
                    refine lv_iconst (v := 3) hx hb dX7_copy_99 (by decide) ?_
                    refine lv_icmp_eq (tgt := 109) hx hb dX7_copy_100 (by decide) (fun c_122 => ?_) (fun c_122 => ?_)
                    · exact absurd c_122 (by decide)
                    · refine lv_iload hx hb dX7_copy_103 (lv_at hl 1 rfl) ?_
                      refine lv_iconst (v := 3) hx hb dX7_copy_105 (by decide) ?_
                      refine lv_icmp_ne (tgt := 115) hx hb dX7_copy_106 (by decide) (fun c_123 => ?_) (fun c_123 => ?_)
                      · exact absurd c_123 (by decide)
                      · refine lv_aload_n hx hb dX7_copy_109 rfl (lv_at hl 5 rfl) ?_
                        refine lv_iconst (v := 3) hx hb dX7_copy_110 (by decide) ?_
                        skip
                        refine zw_V (As := [.int 3]) (rest := []) (wr := [(xs, .inl (cS, 8, .inr (.inr (.inr (.inr fh))))), (h0, .inr (4, [.ref e0, .int he, .int si])), (e0, .inl (cJ, 160, .inr (.inl fe))), (g0, .inr (4, [.ref e1, .int ge, .int gs])), (e1, .inl (cJ, 160, .inr (.inl fe1)))]) ⟨hx, hb, hml, hown, hts⟩ (c_X_refuse_3 l D cI cJ cZ cP cS po x0 xs j0 k0 w0 rd mv xr (im) (lf) fr hy0 hy1 hy2 hy3 H.size) (cwV 1 hts gX7_copy_X7_refuse rfl rfl rfl ⟨rfl, dh_X7_refuse⟩ ⟨Nat.le_of_ble_eq_true rfl, Nat.le_of_ble_eq_true rfl⟩) hK hN (hZ.kept hS) hP hD hS hA [0, 1] [2, 3, 4, 5, 6] rfl rfl (by decide) (by decide) (by decide) (va_recv (q := (RX7, TX7, 9)) hK hP (ci := 7) (q0 := 0) rfl rfl) rfl hl.1 rfl (Nat.le_of_ble_eq_true rfl) dX7_copy_111 ⟨Nat.le_of_ble_eq_true rfl, Nat.le_of_ble_eq_true rfl⟩ (fun r_124 u_125 H locs hr_124 hP hD hS => ?_)
                        obtain ⟨q_126, rfl⟩ : ∃ z, z = u_125 := ⟨_, rfl⟩
                        have h9R := zRe (ws' := [(xs, .inl (cS, 8, .inr (.inr (.inr (.inr fh))))), (h0, .inr (4, [.ref e0, .int he, .int si])), (e0, .inl (cJ, 160, .inr (.inl fe))), (g0, .inr (4, [.ref e1, .int ge, .int gs])), (e1, .inl (cJ, 160, .inr (.inl fe1))), (x0, .inr (7, [.ref xs, .ref j0, .ref k0, .ref w0, .ref rd, .ref mv, .ref xr, .int im, .int lf])), (xr, .inl (cI, 8, .inl q_126))]) hP hD rfl
                        clear hP hD
                        obtain ⟨hP, hD⟩ := h9R
                        obtain rfl := hr_124
                        exact W.iret (v := (-3)) hx hb hr (fun t ht hW => ⟨⟨(-3), (fe1, q_126), rfl, ⟨(show ((-3) : Int32).toInt = zCopR s_.toInt q_.toInt he.toInt ge.toInt si.toInt gs.toInt i.toInt j.toInt n.toInt from by (have k9 : ((-3) : Int32).toInt = -3 := (by decide); unfold zCopR; (repeat (first | rw [if_pos (by omega)] | rw [if_neg (by omega)])) <;> omega)), (show (((-3) : Int32).toInt = 1 → fe1 = va_cpy fe fe1 i.toNatClampNeg j.toNatClampNeg n.toNatClampNeg) from by (have k9 : ((-3) : Int32).toInt = -3 := (by decide); intro h; exfalso; omega)), (show (((-3) : Int32).toInt ≠ 1 → fe1 = fe1) from by (have k9 : ((-3) : Int32).toInt = -3 := (by decide); intro h; exact rfl)), trivial⟩, zRet ht hP hD [5, 6, 0, 1, 2, 3, 4] (by decide) rfl⟩, hS.F ht⟩) hS.2.2 dX7_copy_114
                  · exact absurd c_121 (by decide)
            · exact absurd c_118 (by decide)
        · refine lv_istore (lv' := [(9, .int 0), (8, .int 0), (7, .ref g0), (6, .ref h0), (0, .ref x0), (1, .int s_), (2, .int q_), (3, .int i), (4, .int j), (5, .int n)]) hx hb dX7_copy_42 hl (by decide) rfl (fun ls hl => ?_)
          refine lv_iload hx hb dX7_copy_44 (lv_at hl 1 rfl) ?_
          refine lv_if_ne (tgt := 71) hx hb dX7_copy_46 (by decide) (fun c_127 => ?_) (fun c_127 => ?_)
          · exact absurd c_127 (by decide)
          · refine lv_iload hx hb dX7_copy_49 (lv_at hl 0 rfl) ?_
            refine lv_if_ne (tgt := 71) hx hb dX7_copy_51 (by decide) (fun c_128 => ?_) (fun c_128 => ?_)
            · exact absurd c_128 (by decide)
            · refine lv_aload hx hb dX7_copy_54 (lv_at hl 3 rfl) ?_
              refine va_get (D := D) (ci := 4) (v := .int he) (C := RX4) (T := TX4) (N := 3) hx hb hts hi_X7_copy_4 hown hK hP 3 rfl rfl 1 (by decide) (hts (.fieldLink RX7 87 "TheLiningsInIt$Shelf" "held" "I") (List.mem_of_getElem? (i := 1) rfl)) (fun _ h9 => h9) rfl dX7_copy_56 ?_
              refine lv_aload hx hb dX7_copy_59 (lv_at hl 2 rfl) ?_
              refine va_get (D := D) (ci := 4) (v := .int ge) (C := RX4) (T := TX4) (N := 3) hx hb hts hi_X7_copy_4 hown hK hP 5 rfl rfl 1 (by decide) (hts (.fieldLink RX7 87 "TheLiningsInIt$Shelf" "held" "I") (List.mem_of_getElem? (i := 1) rfl)) (fun _ h9 => h9) rfl dX7_copy_61 ?_
              refine lv_icmp_eq (tgt := 71) hx hb dX7_copy_64 (by decide) (fun c_129 => ?_) (fun c_129 => ?_)
              · have fc_129 : he.toInt = ge.toInt := zf_eq c_129 rfl rfl
                refine lv_iconst (v := 0) hx hb dX7_copy_71 (by decide) ?_
                refine lv_istore (lv' := [(10, .int 0), (9, .int 0), (8, .int 0), (7, .ref g0), (6, .ref h0), (0, .ref x0), (1, .int s_), (2, .int q_), (3, .int i), (4, .int j), (5, .int n)]) hx hb dX7_copy_72 hl (by decide) rfl (fun ls hl => ?_)
                refine lv_iload hx hb dX7_copy_74 (lv_at hl 2 rfl) ?_
                refine lv_iconst (v := 2) hx hb dX7_copy_76 (by decide) ?_
                refine lv_icmp_eq (tgt := 91) hx hb dX7_copy_77 (by decide) (fun c_130 => ?_) (fun c_130 => ?_)
                · exact absurd c_130 (by decide)
                · refine lv_iload hx hb dX7_copy_80 (lv_at hl 1 rfl) ?_
                  refine lv_iconst (v := 2) hx hb dX7_copy_82 (by decide) ?_
                  refine lv_icmp_eq (tgt := 91) hx hb dX7_copy_83 (by decide) (fun c_131 => ?_) (fun c_131 => ?_)
                  · exact absurd c_131 (by decide)
                  · refine lv_iload hx hb dX7_copy_86 (lv_at hl 0 rfl) ?_
                    refine lv_if_eq (tgt := 97) hx hb dX7_copy_88 (by decide) (fun c_132 => ?_) (fun c_132 => ?_)
                    · refine lv_iload hx hb dX7_copy_97 (lv_at hl 2 rfl) ?_
                      refine lv_iconst (v := 3) hx hb dX7_copy_99 (by decide) ?_
                      refine lv_icmp_eq (tgt := 109) hx hb dX7_copy_100 (by decide) (fun c_133 => ?_) (fun c_133 => ?_)
                      · exact absurd c_133 (by decide)
                      · refine lv_iload hx hb dX7_copy_103 (lv_at hl 1 rfl) ?_
                        refine lv_iconst (v := 3) hx hb dX7_copy_105 (by decide) ?_
                        refine lv_icmp_ne (tgt := 115) hx hb dX7_copy_106 (by decide) (fun c_134 => ?_) (fun c_134 => ?_)
                        · refine lv_iload hx hb dX7_copy_115 (lv_at hl 10 rfl) ?_
                          refine lv_if_ge (tgt := 126) hx hb dX7_copy_117 (by decide) (fun c_135 => ?_) (fun c_135 => ?_)
                          · have fc_135 : 0 ≤ n.toInt := zf_le c_135 (by decide) rfl
                            refine lv_aload hx hb dX7_copy_126 (lv_at hl 4 rfl) ?_
                            refine lv_iload_n hx hb dX7_copy_128 rfl (lv_at hl 8 rfl) ?_
                            refine lv_iload hx hb dX7_copy_129 (lv_at hl 10 rfl) ?_
                            refine zc_V (As := [.int i, .int n]) (rest := []) ⟨hx, hb, hml, hown, hts⟩ (c_Sh_hasSpan l D cI cJ cZ cP cS po h0 e0 (he) (si) (i) (n) hy4 hy5 hy6 hy7) (cwV 2 hts gX7_copy_X4_hasSpan rfl rfl rfl ⟨rfl, dh_X4_hasSpan⟩ ⟨Nat.le_of_ble_eq_true rfl, Nat.le_of_ble_eq_true rfl⟩) hK hN (hZ.kept hS) hP (hP.sub [3] rfl) (va_recv (q := (RX4, TX4, 3)) hK hP (ci := 4) (q0 := 3) rfl rfl) rfl hl.1 rfl (Nat.le_of_ble_eq_true rfl) dX7_copy_131 ⟨Nat.le_of_ble_eq_true rfl, Nat.le_of_ble_eq_true rfl⟩ (fun r_136 hr_136 => ?_)
                            rcases hr_136 with ⟨rfl, g_137⟩ | ⟨rfl, g_138, g_139⟩ | ⟨rfl, g_140, g_141, g_142⟩ | ⟨rfl, g_143, g_144, g_145, g_146⟩ | ⟨rfl, g_147, g_148, g_149, g_150⟩
                            · refine lv_if_eq (tgt := 149) hx hb dX7_copy_134 (by decide) (fun c_151 => ?_) (fun c_151 => ?_)
                              · refine lv_aload_n hx hb dX7_copy_149 rfl (lv_at hl 5 rfl) ?_
                                refine lv_iconst (v := 5) hx hb dX7_copy_150 (by decide) ?_
                                skip
                                refine zw_V (As := [.int 5]) (rest := []) (wr := [(xs, .inl (cS, 8, .inr (.inr (.inr (.inr fh))))), (h0, .inr (4, [.ref e0, .int he, .int si])), (e0, .inl (cJ, 160, .inr (.inl fe))), (g0, .inr (4, [.ref e1, .int ge, .int gs])), (e1, .inl (cJ, 160, .inr (.inl fe1)))]) ⟨hx, hb, hml, hown, hts⟩ (c_X_refuse_5 l D cI cJ cZ cP cS po x0 xs j0 k0 w0 rd mv xr (im) (lf) fr hy0 hy1 hy2 hy3 H.size) (cwV 1 hts gX7_copy_X7_refuse rfl rfl rfl ⟨rfl, dh_X7_refuse⟩ ⟨Nat.le_of_ble_eq_true rfl, Nat.le_of_ble_eq_true rfl⟩) hK hN (hZ.kept hS) hP hD hS hA [0, 1] [2, 3, 4, 5, 6] rfl rfl (by decide) (by decide) (by decide) (va_recv (q := (RX7, TX7, 9)) hK hP (ci := 7) (q0 := 0) rfl rfl) rfl hl.1 rfl (Nat.le_of_ble_eq_true rfl) dX7_copy_151 ⟨Nat.le_of_ble_eq_true rfl, Nat.le_of_ble_eq_true rfl⟩ (fun r_152 u_153 H locs hr_152 hP hD hS => ?_)
                                obtain ⟨q_154, rfl⟩ : ∃ z, z = u_153 := ⟨_, rfl⟩
                                have h9R := zRe (ws' := [(xs, .inl (cS, 8, .inr (.inr (.inr (.inr fh))))), (h0, .inr (4, [.ref e0, .int he, .int si])), (e0, .inl (cJ, 160, .inr (.inl fe))), (g0, .inr (4, [.ref e1, .int ge, .int gs])), (e1, .inl (cJ, 160, .inr (.inl fe1))), (x0, .inr (7, [.ref xs, .ref j0, .ref k0, .ref w0, .ref rd, .ref mv, .ref xr, .int im, .int lf])), (xr, .inl (cI, 8, .inl q_154))]) hP hD rfl
                                clear hP hD
                                obtain ⟨hP, hD⟩ := h9R
                                obtain rfl := hr_152
                                exact W.iret (v := (-5)) hx hb hr (fun t ht hW => ⟨⟨(-5), (fe1, q_154), rfl, ⟨(show ((-5) : Int32).toInt = zCopR s_.toInt q_.toInt he.toInt ge.toInt si.toInt gs.toInt i.toInt j.toInt n.toInt from by (have k9 : ((-5) : Int32).toInt = -5 := (by decide); unfold zCopR; (repeat (first | rw [if_pos (by omega)] | rw [if_neg (by omega)])) <;> omega)), (show (((-5) : Int32).toInt = 1 → fe1 = va_cpy fe fe1 i.toNatClampNeg j.toNatClampNeg n.toNatClampNeg) from by (have k9 : ((-5) : Int32).toInt = -5 := (by decide); intro h; exfalso; omega)), (show (((-5) : Int32).toInt ≠ 1 → fe1 = fe1) from by (have k9 : ((-5) : Int32).toInt = -5 := (by decide); intro h; exact rfl)), trivial⟩, zRet ht hP hD [5, 6, 0, 1, 2, 3, 4] (by decide) rfl⟩, hS.F ht⟩) hS.2.2 dX7_copy_154
                              · exact absurd c_151 (by decide)
                            · exfalso; omega
                            · refine lv_if_eq (tgt := 149) hx hb dX7_copy_134 (by decide) (fun c_155 => ?_) (fun c_155 => ?_)
                              · refine lv_aload_n hx hb dX7_copy_149 rfl (lv_at hl 5 rfl) ?_
                                refine lv_iconst (v := 5) hx hb dX7_copy_150 (by decide) ?_
                                skip
                                refine zw_V (As := [.int 5]) (rest := []) (wr := [(xs, .inl (cS, 8, .inr (.inr (.inr (.inr fh))))), (h0, .inr (4, [.ref e0, .int he, .int si])), (e0, .inl (cJ, 160, .inr (.inl fe))), (g0, .inr (4, [.ref e1, .int ge, .int gs])), (e1, .inl (cJ, 160, .inr (.inl fe1)))]) ⟨hx, hb, hml, hown, hts⟩ (c_X_refuse_5 l D cI cJ cZ cP cS po x0 xs j0 k0 w0 rd mv xr (im) (lf) fr hy0 hy1 hy2 hy3 H.size) (cwV 1 hts gX7_copy_X7_refuse rfl rfl rfl ⟨rfl, dh_X7_refuse⟩ ⟨Nat.le_of_ble_eq_true rfl, Nat.le_of_ble_eq_true rfl⟩) hK hN (hZ.kept hS) hP hD hS hA [0, 1] [2, 3, 4, 5, 6] rfl rfl (by decide) (by decide) (by decide) (va_recv (q := (RX7, TX7, 9)) hK hP (ci := 7) (q0 := 0) rfl rfl) rfl hl.1 rfl (Nat.le_of_ble_eq_true rfl) dX7_copy_151 ⟨Nat.le_of_ble_eq_true rfl, Nat.le_of_ble_eq_true rfl⟩ (fun r_156 u_157 H locs hr_156 hP hD hS => ?_)
                                obtain ⟨q_158, rfl⟩ : ∃ z, z = u_157 := ⟨_, rfl⟩
                                have h9R := zRe (ws' := [(xs, .inl (cS, 8, .inr (.inr (.inr (.inr fh))))), (h0, .inr (4, [.ref e0, .int he, .int si])), (e0, .inl (cJ, 160, .inr (.inl fe))), (g0, .inr (4, [.ref e1, .int ge, .int gs])), (e1, .inl (cJ, 160, .inr (.inl fe1))), (x0, .inr (7, [.ref xs, .ref j0, .ref k0, .ref w0, .ref rd, .ref mv, .ref xr, .int im, .int lf])), (xr, .inl (cI, 8, .inl q_158))]) hP hD rfl
                                clear hP hD
                                obtain ⟨hP, hD⟩ := h9R
                                obtain rfl := hr_156
                                exact W.iret (v := (-5)) hx hb hr (fun t ht hW => ⟨⟨(-5), (fe1, q_158), rfl, ⟨(show ((-5) : Int32).toInt = zCopR s_.toInt q_.toInt he.toInt ge.toInt si.toInt gs.toInt i.toInt j.toInt n.toInt from by (have k9 : ((-5) : Int32).toInt = -5 := (by decide); unfold zCopR; (repeat (first | rw [if_pos (by omega)] | rw [if_neg (by omega)])) <;> omega)), (show (((-5) : Int32).toInt = 1 → fe1 = va_cpy fe fe1 i.toNatClampNeg j.toNatClampNeg n.toNatClampNeg) from by (have k9 : ((-5) : Int32).toInt = -5 := (by decide); intro h; exfalso; omega)), (show (((-5) : Int32).toInt ≠ 1 → fe1 = fe1) from by (have k9 : ((-5) : Int32).toInt = -5 := (by decide); intro h; exact rfl)), trivial⟩, zRet ht hP hD [5, 6, 0, 1, 2, 3, 4] (by decide) rfl⟩, hS.F ht⟩) hS.2.2 dX7_copy_154
                              · exact absurd c_155 (by decide)
                            · refine lv_if_eq (tgt := 149) hx hb dX7_copy_134 (by decide) (fun c_159 => ?_) (fun c_159 => ?_)
                              · refine lv_aload_n hx hb dX7_copy_149 rfl (lv_at hl 5 rfl) ?_
                                refine lv_iconst (v := 5) hx hb dX7_copy_150 (by decide) ?_
                                skip
                                refine zw_V (As := [.int 5]) (rest := []) (wr := [(xs, .inl (cS, 8, .inr (.inr (.inr (.inr fh))))), (h0, .inr (4, [.ref e0, .int he, .int si])), (e0, .inl (cJ, 160, .inr (.inl fe))), (g0, .inr (4, [.ref e1, .int ge, .int gs])), (e1, .inl (cJ, 160, .inr (.inl fe1)))]) ⟨hx, hb, hml, hown, hts⟩ (c_X_refuse_5 l D cI cJ cZ cP cS po x0 xs j0 k0 w0 rd mv xr (im) (lf) fr hy0 hy1 hy2 hy3 H.size) (cwV 1 hts gX7_copy_X7_refuse rfl rfl rfl ⟨rfl, dh_X7_refuse⟩ ⟨Nat.le_of_ble_eq_true rfl, Nat.le_of_ble_eq_true rfl⟩) hK hN (hZ.kept hS) hP hD hS hA [0, 1] [2, 3, 4, 5, 6] rfl rfl (by decide) (by decide) (by decide) (va_recv (q := (RX7, TX7, 9)) hK hP (ci := 7) (q0 := 0) rfl rfl) rfl hl.1 rfl (Nat.le_of_ble_eq_true rfl) dX7_copy_151 ⟨Nat.le_of_ble_eq_true rfl, Nat.le_of_ble_eq_true rfl⟩ (fun r_160 u_161 H locs hr_160 hP hD hS => ?_)
                                obtain ⟨q_162, rfl⟩ : ∃ z, z = u_161 := ⟨_, rfl⟩
                                have h9R := zRe (ws' := [(xs, .inl (cS, 8, .inr (.inr (.inr (.inr fh))))), (h0, .inr (4, [.ref e0, .int he, .int si])), (e0, .inl (cJ, 160, .inr (.inl fe))), (g0, .inr (4, [.ref e1, .int ge, .int gs])), (e1, .inl (cJ, 160, .inr (.inl fe1))), (x0, .inr (7, [.ref xs, .ref j0, .ref k0, .ref w0, .ref rd, .ref mv, .ref xr, .int im, .int lf])), (xr, .inl (cI, 8, .inl q_162))]) hP hD rfl
                                clear hP hD
                                obtain ⟨hP, hD⟩ := h9R
                                obtain rfl := hr_160
                                exact W.iret (v := (-5)) hx hb hr (fun t ht hW => ⟨⟨(-5), (fe1, q_162), rfl, ⟨(show ((-5) : Int32).toInt = zCopR s_.toInt q_.toInt he.toInt ge.toInt si.toInt gs.toInt i.toInt j.toInt n.toInt from by (have k9 : ((-5) : Int32).toInt = -5 := (by decide); unfold zCopR; (repeat (first | rw [if_pos (by omega)] | rw [if_neg (by omega)])) <;> omega)), (show (((-5) : Int32).toInt = 1 → fe1 = va_cpy fe fe1 i.toNatClampNeg j.toNatClampNeg n.toNatClampNeg) from by (have k9 : ((-5) : Int32).toInt = -5 := (by decide); intro h; exfalso; omega)), (show (((-5) : Int32).toInt ≠ 1 → fe1 = fe1) from by (have k9 : ((-5) : Int32).toInt = -5 := (by decide); intro h; exact rfl)), trivial⟩, zRet ht hP hD [5, 6, 0, 1, 2, 3, 4] (by decide) rfl⟩, hS.F ht⟩) hS.2.2 dX7_copy_154
                              · exact absurd c_159 (by decide)
                            · refine lv_if_eq (tgt := 149) hx hb dX7_copy_134 (by decide) (fun c_163 => ?_) (fun c_163 => ?_)
                              · exact absurd c_163 (by decide)
                              · refine lv_aload hx hb dX7_copy_137 (lv_at hl 3 rfl) ?_
                                refine lv_iload hx hb dX7_copy_139 (lv_at hl 9 rfl) ?_
                                refine lv_iload hx hb dX7_copy_141 (lv_at hl 10 rfl) ?_
                                refine zc_V (As := [.int j, .int n]) (rest := []) ⟨hx, hb, hml, hown, hts⟩ (c_Sh_hasSpan l D cI cJ cZ cP cS po g0 e1 (ge) (gs) (j) (n) hy8 hy9 hy10 hy11) (cwV 2 hts gX7_copy_X4_hasSpan rfl rfl rfl ⟨rfl, dh_X4_hasSpan⟩ ⟨Nat.le_of_ble_eq_true rfl, Nat.le_of_ble_eq_true rfl⟩) hK hN (hZ.kept hS) hP (hP.sub [5] rfl) (va_recv (q := (RX4, TX4, 3)) hK hP (ci := 4) (q0 := 5) rfl rfl) rfl hl.1 rfl (Nat.le_of_ble_eq_true rfl) dX7_copy_143 ⟨Nat.le_of_ble_eq_true rfl, Nat.le_of_ble_eq_true rfl⟩ (fun r_164 hr_164 => ?_)
                                rcases hr_164 with ⟨rfl, g_165⟩ | ⟨rfl, g_166, g_167⟩ | ⟨rfl, g_168, g_169, g_170⟩ | ⟨rfl, g_171, g_172, g_173, g_174⟩ | ⟨rfl, g_175, g_176, g_177, g_178⟩
                                · refine lv_if_ne (tgt := 155) hx hb dX7_copy_146 (by decide) (fun c_179 => ?_) (fun c_179 => ?_)
                                  · exact absurd c_179 (by decide)
                                  · refine lv_aload_n hx hb dX7_copy_149 rfl (lv_at hl 5 rfl) ?_
                                    refine lv_iconst (v := 5) hx hb dX7_copy_150 (by decide) ?_
                                    skip
                                    refine zw_V (As := [.int 5]) (rest := []) (wr := [(xs, .inl (cS, 8, .inr (.inr (.inr (.inr fh))))), (h0, .inr (4, [.ref e0, .int he, .int si])), (e0, .inl (cJ, 160, .inr (.inl fe))), (g0, .inr (4, [.ref e1, .int ge, .int gs])), (e1, .inl (cJ, 160, .inr (.inl fe1)))]) ⟨hx, hb, hml, hown, hts⟩ (c_X_refuse_5 l D cI cJ cZ cP cS po x0 xs j0 k0 w0 rd mv xr (im) (lf) fr hy0 hy1 hy2 hy3 H.size) (cwV 1 hts gX7_copy_X7_refuse rfl rfl rfl ⟨rfl, dh_X7_refuse⟩ ⟨Nat.le_of_ble_eq_true rfl, Nat.le_of_ble_eq_true rfl⟩) hK hN (hZ.kept hS) hP hD hS hA [0, 1] [2, 3, 4, 5, 6] rfl rfl (by decide) (by decide) (by decide) (va_recv (q := (RX7, TX7, 9)) hK hP (ci := 7) (q0 := 0) rfl rfl) rfl hl.1 rfl (Nat.le_of_ble_eq_true rfl) dX7_copy_151 ⟨Nat.le_of_ble_eq_true rfl, Nat.le_of_ble_eq_true rfl⟩ (fun r_180 u_181 H locs hr_180 hP hD hS => ?_)
                                    obtain ⟨q_182, rfl⟩ : ∃ z, z = u_181 := ⟨_, rfl⟩
                                    have h9R := zRe (ws' := [(xs, .inl (cS, 8, .inr (.inr (.inr (.inr fh))))), (h0, .inr (4, [.ref e0, .int he, .int si])), (e0, .inl (cJ, 160, .inr (.inl fe))), (g0, .inr (4, [.ref e1, .int ge, .int gs])), (e1, .inl (cJ, 160, .inr (.inl fe1))), (x0, .inr (7, [.ref xs, .ref j0, .ref k0, .ref w0, .ref rd, .ref mv, .ref xr, .int im, .int lf])), (xr, .inl (cI, 8, .inl q_182))]) hP hD rfl
                                    clear hP hD
                                    obtain ⟨hP, hD⟩ := h9R
                                    obtain rfl := hr_180
                                    exact W.iret (v := (-5)) hx hb hr (fun t ht hW => ⟨⟨(-5), (fe1, q_182), rfl, ⟨(show ((-5) : Int32).toInt = zCopR s_.toInt q_.toInt he.toInt ge.toInt si.toInt gs.toInt i.toInt j.toInt n.toInt from by (have k9 : ((-5) : Int32).toInt = -5 := (by decide); unfold zCopR; (repeat (first | rw [if_pos (by omega)] | rw [if_neg (by omega)])) <;> omega)), (show (((-5) : Int32).toInt = 1 → fe1 = va_cpy fe fe1 i.toNatClampNeg j.toNatClampNeg n.toNatClampNeg) from by (have k9 : ((-5) : Int32).toInt = -5 := (by decide); intro h; exfalso; omega)), (show (((-5) : Int32).toInt ≠ 1 → fe1 = fe1) from by (have k9 : ((-5) : Int32).toInt = -5 := (by decide); intro h; exact rfl)), trivial⟩, zRet ht hP hD [5, 6, 0, 1, 2, 3, 4] (by decide) rfl⟩, hS.F ht⟩) hS.2.2 dX7_copy_154
                                · exfalso; omega
                                · refine lv_if_ne (tgt := 155) hx hb dX7_copy_146 (by decide) (fun c_183 => ?_) (fun c_183 => ?_)
                                  · exact absurd c_183 (by decide)
                                  · refine lv_aload_n hx hb dX7_copy_149 rfl (lv_at hl 5 rfl) ?_
                                    refine lv_iconst (v := 5) hx hb dX7_copy_150 (by decide) ?_
                                    skip
                                    refine zw_V (As := [.int 5]) (rest := []) (wr := [(xs, .inl (cS, 8, .inr (.inr (.inr (.inr fh))))), (h0, .inr (4, [.ref e0, .int he, .int si])), (e0, .inl (cJ, 160, .inr (.inl fe))), (g0, .inr (4, [.ref e1, .int ge, .int gs])), (e1, .inl (cJ, 160, .inr (.inl fe1)))]) ⟨hx, hb, hml, hown, hts⟩ (c_X_refuse_5 l D cI cJ cZ cP cS po x0 xs j0 k0 w0 rd mv xr (im) (lf) fr hy0 hy1 hy2 hy3 H.size) (cwV 1 hts gX7_copy_X7_refuse rfl rfl rfl ⟨rfl, dh_X7_refuse⟩ ⟨Nat.le_of_ble_eq_true rfl, Nat.le_of_ble_eq_true rfl⟩) hK hN (hZ.kept hS) hP hD hS hA [0, 1] [2, 3, 4, 5, 6] rfl rfl (by decide) (by decide) (by decide) (va_recv (q := (RX7, TX7, 9)) hK hP (ci := 7) (q0 := 0) rfl rfl) rfl hl.1 rfl (Nat.le_of_ble_eq_true rfl) dX7_copy_151 ⟨Nat.le_of_ble_eq_true rfl, Nat.le_of_ble_eq_true rfl⟩ (fun r_184 u_185 H locs hr_184 hP hD hS => ?_)
                                    obtain ⟨q_186, rfl⟩ : ∃ z, z = u_185 := ⟨_, rfl⟩
                                    have h9R := zRe (ws' := [(xs, .inl (cS, 8, .inr (.inr (.inr (.inr fh))))), (h0, .inr (4, [.ref e0, .int he, .int si])), (e0, .inl (cJ, 160, .inr (.inl fe))), (g0, .inr (4, [.ref e1, .int ge, .int gs])), (e1, .inl (cJ, 160, .inr (.inl fe1))), (x0, .inr (7, [.ref xs, .ref j0, .ref k0, .ref w0, .ref rd, .ref mv, .ref xr, .int im, .int lf])), (xr, .inl (cI, 8, .inl q_186))]) hP hD rfl
                                    clear hP hD
                                    obtain ⟨hP, hD⟩ := h9R
                                    obtain rfl := hr_184
                                    exact W.iret (v := (-5)) hx hb hr (fun t ht hW => ⟨⟨(-5), (fe1, q_186), rfl, ⟨(show ((-5) : Int32).toInt = zCopR s_.toInt q_.toInt he.toInt ge.toInt si.toInt gs.toInt i.toInt j.toInt n.toInt from by (have k9 : ((-5) : Int32).toInt = -5 := (by decide); unfold zCopR; (repeat (first | rw [if_pos (by omega)] | rw [if_neg (by omega)])) <;> omega)), (show (((-5) : Int32).toInt = 1 → fe1 = va_cpy fe fe1 i.toNatClampNeg j.toNatClampNeg n.toNatClampNeg) from by (have k9 : ((-5) : Int32).toInt = -5 := (by decide); intro h; exfalso; omega)), (show (((-5) : Int32).toInt ≠ 1 → fe1 = fe1) from by (have k9 : ((-5) : Int32).toInt = -5 := (by decide); intro h; exact rfl)), trivial⟩, zRet ht hP hD [5, 6, 0, 1, 2, 3, 4] (by decide) rfl⟩, hS.F ht⟩) hS.2.2 dX7_copy_154
                                · refine lv_if_ne (tgt := 155) hx hb dX7_copy_146 (by decide) (fun c_187 => ?_) (fun c_187 => ?_)
                                  · exact absurd c_187 (by decide)
                                  · refine lv_aload_n hx hb dX7_copy_149 rfl (lv_at hl 5 rfl) ?_
                                    refine lv_iconst (v := 5) hx hb dX7_copy_150 (by decide) ?_
                                    skip
                                    refine zw_V (As := [.int 5]) (rest := []) (wr := [(xs, .inl (cS, 8, .inr (.inr (.inr (.inr fh))))), (h0, .inr (4, [.ref e0, .int he, .int si])), (e0, .inl (cJ, 160, .inr (.inl fe))), (g0, .inr (4, [.ref e1, .int ge, .int gs])), (e1, .inl (cJ, 160, .inr (.inl fe1)))]) ⟨hx, hb, hml, hown, hts⟩ (c_X_refuse_5 l D cI cJ cZ cP cS po x0 xs j0 k0 w0 rd mv xr (im) (lf) fr hy0 hy1 hy2 hy3 H.size) (cwV 1 hts gX7_copy_X7_refuse rfl rfl rfl ⟨rfl, dh_X7_refuse⟩ ⟨Nat.le_of_ble_eq_true rfl, Nat.le_of_ble_eq_true rfl⟩) hK hN (hZ.kept hS) hP hD hS hA [0, 1] [2, 3, 4, 5, 6] rfl rfl (by decide) (by decide) (by decide) (va_recv (q := (RX7, TX7, 9)) hK hP (ci := 7) (q0 := 0) rfl rfl) rfl hl.1 rfl (Nat.le_of_ble_eq_true rfl) dX7_copy_151 ⟨Nat.le_of_ble_eq_true rfl, Nat.le_of_ble_eq_true rfl⟩ (fun r_188 u_189 H locs hr_188 hP hD hS => ?_)
                                    obtain ⟨q_190, rfl⟩ : ∃ z, z = u_189 := ⟨_, rfl⟩
                                    have h9R := zRe (ws' := [(xs, .inl (cS, 8, .inr (.inr (.inr (.inr fh))))), (h0, .inr (4, [.ref e0, .int he, .int si])), (e0, .inl (cJ, 160, .inr (.inl fe))), (g0, .inr (4, [.ref e1, .int ge, .int gs])), (e1, .inl (cJ, 160, .inr (.inl fe1))), (x0, .inr (7, [.ref xs, .ref j0, .ref k0, .ref w0, .ref rd, .ref mv, .ref xr, .int im, .int lf])), (xr, .inl (cI, 8, .inl q_190))]) hP hD rfl
                                    clear hP hD
                                    obtain ⟨hP, hD⟩ := h9R
                                    obtain rfl := hr_188
                                    exact W.iret (v := (-5)) hx hb hr (fun t ht hW => ⟨⟨(-5), (fe1, q_190), rfl, ⟨(show ((-5) : Int32).toInt = zCopR s_.toInt q_.toInt he.toInt ge.toInt si.toInt gs.toInt i.toInt j.toInt n.toInt from by (have k9 : ((-5) : Int32).toInt = -5 := (by decide); unfold zCopR; (repeat (first | rw [if_pos (by omega)] | rw [if_neg (by omega)])) <;> omega)), (show (((-5) : Int32).toInt = 1 → fe1 = va_cpy fe fe1 i.toNatClampNeg j.toNatClampNeg n.toNatClampNeg) from by (have k9 : ((-5) : Int32).toInt = -5 := (by decide); intro h; exfalso; omega)), (show (((-5) : Int32).toInt ≠ 1 → fe1 = fe1) from by (have k9 : ((-5) : Int32).toInt = -5 := (by decide); intro h; exact rfl)), trivial⟩, zRet ht hP hD [5, 6, 0, 1, 2, 3, 4] (by decide) rfl⟩, hS.F ht⟩) hS.2.2 dX7_copy_154
                                · refine lv_if_ne (tgt := 155) hx hb dX7_copy_146 (by decide) (fun c_191 => ?_) (fun c_191 => ?_)
                                  · refine lv_aload hx hb dX7_copy_155 (lv_at hl 4 rfl) ?_
                                    refine va_get (D := D) (ci := 4) (v := .ref e0) (C := RX4) (T := TX4) (N := 3) hx hb hts hi_X7_copy_4 hown hK hP 3 rfl rfl 0 (by decide) (hts (.fieldLink RX7 90 "TheLiningsInIt$Shelf" "elements" "[J") (List.mem_of_getElem? (i := 2) rfl)) (fun _ h9 => h9) rfl dX7_copy_157 ?_
                                    refine lv_iload_n hx hb dX7_copy_160 rfl (lv_at hl 8 rfl) ?_
                                    refine lv_aload hx hb dX7_copy_161 (lv_at hl 3 rfl) ?_
                                    refine va_get (D := D) (ci := 4) (v := .ref e1) (C := RX4) (T := TX4) (N := 3) hx hb hts hi_X7_copy_4 hown hK hP 5 rfl rfl 0 (by decide) (hts (.fieldLink RX7 90 "TheLiningsInIt$Shelf" "elements" "[J") (List.mem_of_getElem? (i := 2) rfl)) (fun _ h9 => h9) rfl dX7_copy_163 ?_
                                    refine lv_iload hx hb dX7_copy_166 (lv_at hl 9 rfl) ?_
                                    refine lv_iload hx hb dX7_copy_168 (lv_at hl 10 rfl) ?_
                                    refine va_copyl hx hb (hml.trans hl.1.symm) hown (hts (.methodLink RX7 94 arraycopyName) (List.mem_of_getElem? (i := 3) rfl)) (hts _ (List.mem_of_getElem? (i := 4) rfl)) (hts _ (List.mem_of_getElem? (i := 5) rfl)) (hts _ (List.mem_of_getElem? (i := 6) rfl)) hK hP hD hS 4 6 1 1 rfl rfl rfl rfl rfl (fun h => by have h9 := zf_lt h rfl (show (0 : Int32).toInt = 0 from by decide); omega) (fun h => by have h9 := zf_lt h rfl (show (0 : Int32).toInt = 0 from by decide); omega) (fun h => by have h9 := zf_lt h rfl (show (0 : Int32).toInt = 0 from by decide); omega) (by (show (i : Int32).toInt.toNat + (n : Int32).toInt.toNat ≤ 160; omega)) (by (show (j : Int32).toInt.toNat + (n : Int32).toInt.toNat ≤ 160; omega)) (fun _ _ => rfl) (Nat.le_of_ble_eq_true rfl) (by decide) dX7_copy_170 (fun H locs hP hD hS => ?_)
                                    obtain ⟨g_192, hg_192⟩ : ∃ g : Nat → Int64, g = va_cpy fe fe1 i.toNatClampNeg j.toNatClampNeg n.toNatClampNeg := ⟨_, rfl⟩
                                    rw [← hg_192] at hP hD
                                    have h9R := zRe (ws' := [(x0, .inr (7, [.ref xs, .ref j0, .ref k0, .ref w0, .ref rd, .ref mv, .ref xr, .int im, .int lf])), (xr, .inl (cI, 8, .inl fr)), (xs, .inl (cS, 8, .inr (.inr (.inr (.inr fh))))), (h0, .inr (4, [.ref e0, .int he, .int si])), (e0, .inl (cJ, 160, .inr (.inl fe))), (g0, .inr (4, [.ref e1, .int ge, .int gs])), (e1, .inl (cJ, 160, .inr (.inl g_192)))]) hP hD rfl
                                    clear hP hD
                                    obtain ⟨hP, hD⟩ := h9R
                                    refine lv_iconst (v := 1) hx hb dX7_copy_173 (by decide) ?_
                                    exact W.iret (v := 1) hx hb hr (fun t ht hW => ⟨⟨1, (g_192, fr), rfl, ⟨(show (1 : Int32).toInt = zCopR s_.toInt q_.toInt he.toInt ge.toInt si.toInt gs.toInt i.toInt j.toInt n.toInt from by (have k9 : (1 : Int32).toInt = 1 := (by decide); unfold zCopR; (repeat (first | rw [if_pos (by omega)] | rw [if_neg (by omega)])) <;> omega)), (show ((1 : Int32).toInt = 1 → g_192 = va_cpy fe fe1 i.toNatClampNeg j.toNatClampNeg n.toNatClampNeg) from by (have k9 : (1 : Int32).toInt = 1 := (by decide); intro h; exact (by rw [hg_192]))), (show ((1 : Int32).toInt ≠ 1 → g_192 = fe1) from by (have k9 : (1 : Int32).toInt = 1 := (by decide); intro h; exfalso; omega)), trivial⟩, zRet ht hP hD [0, 1, 2, 3, 4, 5, 6] (by decide) rfl⟩, hS.F ht⟩) hS.2.2 dX7_copy_174
                                  · exact absurd c_191 (by decide)
                          · have fc_135 : n.toInt < 0 := zf_nle c_135 (by decide) rfl
                            refine lv_aload_n hx hb dX7_copy_120 rfl (lv_at hl 5 rfl) ?_
                            refine lv_iconst (v := 4) hx hb dX7_copy_121 (by decide) ?_
                            skip
                            refine zw_V (As := [.int 4]) (rest := []) (wr := [(xs, .inl (cS, 8, .inr (.inr (.inr (.inr fh))))), (h0, .inr (4, [.ref e0, .int he, .int si])), (e0, .inl (cJ, 160, .inr (.inl fe))), (g0, .inr (4, [.ref e1, .int ge, .int gs])), (e1, .inl (cJ, 160, .inr (.inl fe1)))]) ⟨hx, hb, hml, hown, hts⟩ (c_X_refuse_4 l D cI cJ cZ cP cS po x0 xs j0 k0 w0 rd mv xr (im) (lf) fr hy0 hy1 hy2 hy3 H.size) (cwV 1 hts gX7_copy_X7_refuse rfl rfl rfl ⟨rfl, dh_X7_refuse⟩ ⟨Nat.le_of_ble_eq_true rfl, Nat.le_of_ble_eq_true rfl⟩) hK hN (hZ.kept hS) hP hD hS hA [0, 1] [2, 3, 4, 5, 6] rfl rfl (by decide) (by decide) (by decide) (va_recv (q := (RX7, TX7, 9)) hK hP (ci := 7) (q0 := 0) rfl rfl) rfl hl.1 rfl (Nat.le_of_ble_eq_true rfl) dX7_copy_122 ⟨Nat.le_of_ble_eq_true rfl, Nat.le_of_ble_eq_true rfl⟩ (fun r_193 u_194 H locs hr_193 hP hD hS => ?_)
                            obtain ⟨q_195, rfl⟩ : ∃ z, z = u_194 := ⟨_, rfl⟩
                            have h9R := zRe (ws' := [(xs, .inl (cS, 8, .inr (.inr (.inr (.inr fh))))), (h0, .inr (4, [.ref e0, .int he, .int si])), (e0, .inl (cJ, 160, .inr (.inl fe))), (g0, .inr (4, [.ref e1, .int ge, .int gs])), (e1, .inl (cJ, 160, .inr (.inl fe1))), (x0, .inr (7, [.ref xs, .ref j0, .ref k0, .ref w0, .ref rd, .ref mv, .ref xr, .int im, .int lf])), (xr, .inl (cI, 8, .inl q_195))]) hP hD rfl
                            clear hP hD
                            obtain ⟨hP, hD⟩ := h9R
                            obtain rfl := hr_193
                            exact W.iret (v := (-4)) hx hb hr (fun t ht hW => ⟨⟨(-4), (fe1, q_195), rfl, ⟨(show ((-4) : Int32).toInt = zCopR s_.toInt q_.toInt he.toInt ge.toInt si.toInt gs.toInt i.toInt j.toInt n.toInt from by (have k9 : ((-4) : Int32).toInt = -4 := (by decide); unfold zCopR; (repeat (first | rw [if_pos (by omega)] | rw [if_neg (by omega)])) <;> omega)), (show (((-4) : Int32).toInt = 1 → fe1 = va_cpy fe fe1 i.toNatClampNeg j.toNatClampNeg n.toNatClampNeg) from by (have k9 : ((-4) : Int32).toInt = -4 := (by decide); intro h; exfalso; omega)), (show (((-4) : Int32).toInt ≠ 1 → fe1 = fe1) from by (have k9 : ((-4) : Int32).toInt = -4 := (by decide); intro h; exact rfl)), trivial⟩, zRet ht hP hD [5, 6, 0, 1, 2, 3, 4] (by decide) rfl⟩, hS.F ht⟩) hS.2.2 dX7_copy_125
                        · exact absurd c_134 (by decide)
                    · exact absurd c_132 (by decide)
              · have fc_129 : he.toInt ≠ ge.toInt := zf_ne c_129 rfl rfl
                refine lv_iconst (v := 1) hx hb dX7_copy_67 (by decide) ?_
                refine lv_goto (tgt := 72) hx hb dX7_copy_68 (by decide) ?_
                refine lv_istore (lv' := [(10, .int 1), (9, .int 0), (8, .int 0), (7, .ref g0), (6, .ref h0), (0, .ref x0), (1, .int s_), (2, .int q_), (3, .int i), (4, .int j), (5, .int n)]) hx hb dX7_copy_72 hl (by decide) rfl (fun ls hl => ?_)
                refine lv_iload hx hb dX7_copy_74 (lv_at hl 2 rfl) ?_
                refine lv_iconst (v := 2) hx hb dX7_copy_76 (by decide) ?_
                refine lv_icmp_eq (tgt := 91) hx hb dX7_copy_77 (by decide) (fun c_196 => ?_) (fun c_196 => ?_)
                · exact absurd c_196 (by decide)
                · refine lv_iload hx hb dX7_copy_80 (lv_at hl 1 rfl) ?_
                  refine lv_iconst (v := 2) hx hb dX7_copy_82 (by decide) ?_
                  refine lv_icmp_eq (tgt := 91) hx hb dX7_copy_83 (by decide) (fun c_197 => ?_) (fun c_197 => ?_)
                  · exact absurd c_197 (by decide)
                  · refine lv_iload hx hb dX7_copy_86 (lv_at hl 0 rfl) ?_
                    refine lv_if_eq (tgt := 97) hx hb dX7_copy_88 (by decide) (fun c_198 => ?_) (fun c_198 => ?_)
                    · exact absurd c_198 (by decide)
                    · refine lv_aload_n hx hb dX7_copy_91 rfl (lv_at hl 5 rfl) ?_
                      refine lv_iconst (v := 2) hx hb dX7_copy_92 (by decide) ?_
                      skip
                      refine zw_V (As := [.int 2]) (rest := []) (wr := [(xs, .inl (cS, 8, .inr (.inr (.inr (.inr fh))))), (h0, .inr (4, [.ref e0, .int he, .int si])), (e0, .inl (cJ, 160, .inr (.inl fe))), (g0, .inr (4, [.ref e1, .int ge, .int gs])), (e1, .inl (cJ, 160, .inr (.inl fe1)))]) ⟨hx, hb, hml, hown, hts⟩ (c_X_refuse_2 l D cI cJ cZ cP cS po x0 xs j0 k0 w0 rd mv xr (im) (lf) fr hy0 hy1 hy2 hy3 H.size) (cwV 1 hts gX7_copy_X7_refuse rfl rfl rfl ⟨rfl, dh_X7_refuse⟩ ⟨Nat.le_of_ble_eq_true rfl, Nat.le_of_ble_eq_true rfl⟩) hK hN (hZ.kept hS) hP hD hS hA [0, 1] [2, 3, 4, 5, 6] rfl rfl (by decide) (by decide) (by decide) (va_recv (q := (RX7, TX7, 9)) hK hP (ci := 7) (q0 := 0) rfl rfl) rfl hl.1 rfl (Nat.le_of_ble_eq_true rfl) dX7_copy_93 ⟨Nat.le_of_ble_eq_true rfl, Nat.le_of_ble_eq_true rfl⟩ (fun r_199 u_200 H locs hr_199 hP hD hS => ?_)
                      obtain ⟨q_201, rfl⟩ : ∃ z, z = u_200 := ⟨_, rfl⟩
                      have h9R := zRe (ws' := [(xs, .inl (cS, 8, .inr (.inr (.inr (.inr fh))))), (h0, .inr (4, [.ref e0, .int he, .int si])), (e0, .inl (cJ, 160, .inr (.inl fe))), (g0, .inr (4, [.ref e1, .int ge, .int gs])), (e1, .inl (cJ, 160, .inr (.inl fe1))), (x0, .inr (7, [.ref xs, .ref j0, .ref k0, .ref w0, .ref rd, .ref mv, .ref xr, .int im, .int lf])), (xr, .inl (cI, 8, .inl q_201))]) hP hD rfl
                      clear hP hD
                      obtain ⟨hP, hD⟩ := h9R
                      obtain rfl := hr_199
                      exact W.iret (v := (-2)) hx hb hr (fun t ht hW => ⟨⟨(-2), (fe1, q_201), rfl, ⟨(show ((-2) : Int32).toInt = zCopR s_.toInt q_.toInt he.toInt ge.toInt si.toInt gs.toInt i.toInt j.toInt n.toInt from by (have k9 : ((-2) : Int32).toInt = -2 := (by decide); unfold zCopR; (repeat (first | rw [if_pos (by omega)] | rw [if_neg (by omega)])) <;> omega)), (show (((-2) : Int32).toInt = 1 → fe1 = va_cpy fe fe1 i.toNatClampNeg j.toNatClampNeg n.toNatClampNeg) from by (have k9 : ((-2) : Int32).toInt = -2 := (by decide); intro h; exfalso; omega)), (show (((-2) : Int32).toInt ≠ 1 → fe1 = fe1) from by (have k9 : ((-2) : Int32).toInt = -2 := (by decide); intro h; exact rfl)), trivial⟩, zRet ht hP hD [5, 6, 0, 1, 2, 3, 4] (by decide) rfl⟩, hS.F ht⟩) hS.2.2 dX7_copy_96
set_option maxHeartbeats 4000000 in
set_option maxRecDepth 100000 in
theorem c_F_X_copy_same (l : Launch) (D : va_G) (cI cJ cZ cP cS : ClassId) (po : zPool) (x0 xs j0 k0 w0 rd mv xr : Nat) (im lf : Int32) (fr : Nat → Int32) (fh : Nat → Option Nat) (s_ : Int32) (h0 e0 : Nat) (he si : Int32) (fe : Nat → Int64) (q_ : Int32) (i j n : Int32) (hy0 : 0 ≤ im.toInt) (hy1 : im.toInt ≤ 1) (hy2 : (-1) ≤ lf.toInt) (hy3 : lf.toInt ≤ 160) (hy4 : (-1) ≤ he.toInt) (hy5 : he.toInt ≤ 103) (hy6 : 0 ≤ si.toInt) (hy7 : si.toInt ≤ 160) (hfs : 0 ≤ s_.toInt → s_.toInt ≤ 7 → fh s_.toNatClampNeg = some h0) (hfq : 0 ≤ q_.toInt → q_.toInt ≤ 7 → fh q_.toNatClampNeg = some h0) (hpz : Nat) : Met l yX7_copy wsX7_copy ({ frames := 2, cells := 0, slots := 0, locals := 100 }) (va_Pc [.ref x0, .int s_, .int q_, .int i, .int j, .int n] (zW D (zKT cI cJ cZ cP cS) po [(x0, .inr (7, [.ref xs, .ref j0, .ref k0, .ref w0, .ref rd, .ref mv, .ref xr, .int im, .int lf])), (xr, .inl (cI, 8, .inl fr)), (xs, .inl (cS, 8, .inr (.inr (.inr (.inr fh))))), (h0, .inr (4, [.ref e0, .int he, .int si])), (e0, .inl (cJ, 160, .inr (.inl fe)))] hpz)) (va_Qi (fun (r : Int32) (u : (Nat → Int64) × (Nat → Int32)) => (r.toInt = zCopR s_.toInt q_.toInt he.toInt he.toInt si.toInt si.toInt i.toInt j.toInt n.toInt) ∧ ((r.toInt = 1 → u.1 = va_cpy fe fe i.toNatClampNeg j.toNatClampNeg n.toNatClampNeg)) ∧ ((r.toInt ≠ 1 → u.1 = fe)) ∧ (True)) (zB D [(x0, .inr (7, [.ref xs, .ref j0, .ref k0, .ref w0, .ref rd, .ref mv, .ref xr, .int im, .int lf])), (xr, .inl (cI, 8, .inl fr)), (xs, .inl (cS, 8, .inr (.inr (.inr (.inr fh))))), (h0, .inr (4, [.ref e0, .int he, .int si])), (e0, .inl (cJ, 160, .inr (.inl fe)))] hpz (fun (u : (Nat → Int64) × (Nat → Int32)) => [(x0, .inr (7, [.ref xs, .ref j0, .ref k0, .ref w0, .ref rd, .ref mv, .ref xr, .int im, .int lf])), (xr, .inl (cI, 8, .inl u.2)), (xs, .inl (cS, 8, .inr (.inr (.inr (.inr fh))))), (h0, .inr (4, [.ref e0, .int he, .int si])), (e0, .inl (cJ, 160, .inr (.inl u.1)))])) (va_A [(x0, .inr (7, [.ref xs, .ref j0, .ref k0, .ref w0, .ref rd, .ref mv, .ref xr, .int im, .int lf])), (xr, .inl (cI, 8, .inl fr)), (xs, .inl (cS, 8, .inr (.inr (.inr (.inr fh))))), (h0, .inr (4, [.ref e0, .int he, .int si])), (e0, .inl (cJ, 160, .inr (.inl fe)))] hpz)) 0 0 (va_A [(x0, .inr (7, [.ref xs, .ref j0, .ref k0, .ref w0, .ref rd, .ref mv, .ref xr, .int im, .int lf])), (xr, .inl (cI, 8, .inl fr)), (xs, .inl (cS, 8, .inr (.inr (.inr (.inr fh))))), (h0, .inr (4, [.ref e0, .int he, .int si])), (e0, .inl (cJ, 160, .inr (.inl fe)))] hpz) := by
  refine Met.ofW (cc := cX7_copy) (maxL := 11) (ret := (some .int)) (by decide) rfl ?_
  intro p e s m args below meth c s₁ B hml hv
  obtain ⟨rfl, hsz, hP, hK, hD0, hN, hZ⟩ := hv
  have hx := B.exec
  have hb := B.bytes
  have hr := B.returns
  have hts := atoms_spec (ws := wsX7_copy) B.pre
  have hown : s.vm.findClass RX7 = some m.cls := findClass_of_methodNamed B.named
  have hlocks := B.notSynchronized
  subst hsz
  have hD := hD0.self (sz := s.heap.size)
  have hA := zA_of hD
  have hl := lv_entry ([.ref x0, .int s_, .int q_, .int i, .int j, .int n]) (n := 11) (Nat.le_of_ble_eq_true rfl)
  rw [lg_entry_eq]
  generalize (lg_sl ([.ref x0, .int s_, .int q_, .int i, .int j, .int n]) ++ List.replicate (11 - (lg_sl ([.ref x0, .int s_, .int q_, .int i, .int j, .int n])).length) Slot.unset).toArray = ls at hl ⊢
  replace hl : lv_has ls 11 [(0, .ref x0), (1, .int s_), (2, .int q_), (3, .int i), (4, .int j), (5, .int n)] := hl
  refine zw_begin hP hD (fun H locs hP1 hS => ?_)
  clear hP
  have hP := hP1
  clear hP1
  refine lv_aload_n hx hb dX7_copy_0 rfl (lv_at hl 0 rfl) ?_
  refine lv_iload_n hx hb dX7_copy_1 rfl (lv_at hl 1 rfl) ?_
  refine zc_Vq (As := [.int s_]) (rest := []) ⟨hx, hb, hml, hown, hts⟩ (c_X_shelfAt l D cI cJ cZ cP cS po x0 xs j0 k0 w0 rd mv xr (im) (lf) ((fun _ => 0)) fh (s_) hy0 hy1 hy2 hy3) (cwV 1 hts gX7_copy_X7_shelfAt rfl rfl rfl ⟨rfl, dh_X7_shelfAt⟩ ⟨Nat.le_of_ble_eq_true rfl, Nat.le_of_ble_eq_true rfl⟩) hK hN (hZ.kept hS) hP (hP.sub [0, 2] rfl) (va_recv (q := (RX7, TX7, 9)) hK hP (ci := 7) (q0 := 0) rfl rfl) rfl hl.1 rfl (Nat.le_of_ble_eq_true rfl) dX7_copy_2 ⟨Nat.le_of_ble_eq_true rfl, Nat.le_of_ble_eq_true rfl⟩ (fun r_1 hr_1 => ?_)
  rcases hr_1 with ⟨rfl, g_2⟩ | ⟨rfl, g_3, g_4⟩ | ⟨rfl, g_5, g_6⟩
  · refine lv_astoreN (lv' := [(6, .null), (0, .ref x0), (1, .int s_), (2, .int q_), (3, .int i), (4, .int j), (5, .int n)]) hx hb dX7_copy_5 hl (by decide) rfl (fun ls hl => ?_)
    refine lv_aload_n hx hb dX7_copy_7 rfl (lv_at hl 1 rfl) ?_
    refine lv_iload_n hx hb dX7_copy_8 rfl (lv_at hl 3 rfl) ?_
    refine zc_Vq (As := [.int q_]) (rest := []) ⟨hx, hb, hml, hown, hts⟩ (c_X_shelfAt l D cI cJ cZ cP cS po x0 xs j0 k0 w0 rd mv xr (im) (lf) ((fun _ => 0)) fh (q_) hy0 hy1 hy2 hy3) (cwV 1 hts gX7_copy_X7_shelfAt rfl rfl rfl ⟨rfl, dh_X7_shelfAt⟩ ⟨Nat.le_of_ble_eq_true rfl, Nat.le_of_ble_eq_true rfl⟩) hK hN (hZ.kept hS) hP (hP.sub [0, 2] rfl) (va_recv (q := (RX7, TX7, 9)) hK hP (ci := 7) (q0 := 0) rfl rfl) rfl hl.1 rfl (Nat.le_of_ble_eq_true rfl) dX7_copy_9 ⟨Nat.le_of_ble_eq_true rfl, Nat.le_of_ble_eq_true rfl⟩ (fun r_7 hr_7 => ?_)
    rcases hr_7 with ⟨rfl, g_8⟩ | ⟨rfl, g_9, g_10⟩ | ⟨rfl, g_11, g_12⟩
    · refine lv_astoreN (lv' := [(7, .null), (6, .null), (0, .ref x0), (1, .int s_), (2, .int q_), (3, .int i), (4, .int j), (5, .int n)]) hx hb dX7_copy_12 hl (by decide) rfl (fun ls hl => ?_)
      refine lv_aloadN hx hb dX7_copy_14 (lv_at hl 1 rfl) ?_
      refine lv_ifnullN (tgt := 24) hx hb dX7_copy_16 (by decide) ?_
      refine lv_aload_n hx hb dX7_copy_24 rfl (lv_at hl 2 rfl) ?_
      refine lv_iconst (v := 1) hx hb dX7_copy_25 (by decide) ?_
      skip
      refine zw_V (As := [.int 1]) (rest := []) (wr := [(xs, .inl (cS, 8, .inr (.inr (.inr (.inr fh))))), (h0, .inr (4, [.ref e0, .int he, .int si])), (e0, .inl (cJ, 160, .inr (.inl fe)))]) ⟨hx, hb, hml, hown, hts⟩ (c_X_refuse_1 l D cI cJ cZ cP cS po x0 xs j0 k0 w0 rd mv xr (im) (lf) fr hy0 hy1 hy2 hy3 H.size) (cwV 1 hts gX7_copy_X7_refuse rfl rfl rfl ⟨rfl, dh_X7_refuse⟩ ⟨Nat.le_of_ble_eq_true rfl, Nat.le_of_ble_eq_true rfl⟩) hK hN (hZ.kept hS) hP hD hS hA [0, 1] [2, 3, 4] rfl rfl (by decide) (by decide) (by decide) (va_recv (q := (RX7, TX7, 9)) hK hP (ci := 7) (q0 := 0) rfl rfl) rfl hl.1 rfl (Nat.le_of_ble_eq_true rfl) dX7_copy_26 ⟨Nat.le_of_ble_eq_true rfl, Nat.le_of_ble_eq_true rfl⟩ (fun r_13 u_14 H locs hr_13 hP hD hS => ?_)
      obtain ⟨q_15, rfl⟩ : ∃ z, z = u_14 := ⟨_, rfl⟩
      have h9R := zRe (ws' := [(xs, .inl (cS, 8, .inr (.inr (.inr (.inr fh))))), (h0, .inr (4, [.ref e0, .int he, .int si])), (e0, .inl (cJ, 160, .inr (.inl fe))), (x0, .inr (7, [.ref xs, .ref j0, .ref k0, .ref w0, .ref rd, .ref mv, .ref xr, .int im, .int lf])), (xr, .inl (cI, 8, .inl q_15))]) hP hD rfl
      clear hP hD
      obtain ⟨hP, hD⟩ := h9R
      obtain rfl := hr_13
      exact W.iret (v := (-1)) hx hb hr (fun t ht hW => ⟨⟨(-1), (fe, q_15), rfl, ⟨(show ((-1) : Int32).toInt = zCopR s_.toInt q_.toInt he.toInt he.toInt si.toInt si.toInt i.toInt j.toInt n.toInt from by (have k9 : ((-1) : Int32).toInt = -1 := (by decide); unfold zCopR; (repeat (first | rw [if_pos (by omega)] | rw [if_neg (by omega)])) <;> omega)), (show (((-1) : Int32).toInt = 1 → fe = va_cpy fe fe i.toNatClampNeg j.toNatClampNeg n.toNatClampNeg) from by (have k9 : ((-1) : Int32).toInt = -1 := (by decide); intro h; exfalso; omega)), (show (((-1) : Int32).toInt ≠ 1 → fe = fe) from by (have k9 : ((-1) : Int32).toInt = -1 := (by decide); intro h; exact rfl)), trivial⟩, zRet ht hP hD [3, 4, 0, 1, 2] (by decide) rfl⟩, hS.F ht⟩) hS.2.2 dX7_copy_29
    · refine lv_astoreN (lv' := [(7, .null), (6, .null), (0, .ref x0), (1, .int s_), (2, .int q_), (3, .int i), (4, .int j), (5, .int n)]) hx hb dX7_copy_12 hl (by decide) rfl (fun ls hl => ?_)
      refine lv_aloadN hx hb dX7_copy_14 (lv_at hl 1 rfl) ?_
      refine lv_ifnullN (tgt := 24) hx hb dX7_copy_16 (by decide) ?_
      refine lv_aload_n hx hb dX7_copy_24 rfl (lv_at hl 2 rfl) ?_
      refine lv_iconst (v := 1) hx hb dX7_copy_25 (by decide) ?_
      skip
      refine zw_V (As := [.int 1]) (rest := []) (wr := [(xs, .inl (cS, 8, .inr (.inr (.inr (.inr fh))))), (h0, .inr (4, [.ref e0, .int he, .int si])), (e0, .inl (cJ, 160, .inr (.inl fe)))]) ⟨hx, hb, hml, hown, hts⟩ (c_X_refuse_1 l D cI cJ cZ cP cS po x0 xs j0 k0 w0 rd mv xr (im) (lf) fr hy0 hy1 hy2 hy3 H.size) (cwV 1 hts gX7_copy_X7_refuse rfl rfl rfl ⟨rfl, dh_X7_refuse⟩ ⟨Nat.le_of_ble_eq_true rfl, Nat.le_of_ble_eq_true rfl⟩) hK hN (hZ.kept hS) hP hD hS hA [0, 1] [2, 3, 4] rfl rfl (by decide) (by decide) (by decide) (va_recv (q := (RX7, TX7, 9)) hK hP (ci := 7) (q0 := 0) rfl rfl) rfl hl.1 rfl (Nat.le_of_ble_eq_true rfl) dX7_copy_26 ⟨Nat.le_of_ble_eq_true rfl, Nat.le_of_ble_eq_true rfl⟩ (fun r_16 u_17 H locs hr_16 hP hD hS => ?_)
      obtain ⟨q_18, rfl⟩ : ∃ z, z = u_17 := ⟨_, rfl⟩
      have h9R := zRe (ws' := [(xs, .inl (cS, 8, .inr (.inr (.inr (.inr fh))))), (h0, .inr (4, [.ref e0, .int he, .int si])), (e0, .inl (cJ, 160, .inr (.inl fe))), (x0, .inr (7, [.ref xs, .ref j0, .ref k0, .ref w0, .ref rd, .ref mv, .ref xr, .int im, .int lf])), (xr, .inl (cI, 8, .inl q_18))]) hP hD rfl
      clear hP hD
      obtain ⟨hP, hD⟩ := h9R
      obtain rfl := hr_16
      exact W.iret (v := (-1)) hx hb hr (fun t ht hW => ⟨⟨(-1), (fe, q_18), rfl, ⟨(show ((-1) : Int32).toInt = zCopR s_.toInt q_.toInt he.toInt he.toInt si.toInt si.toInt i.toInt j.toInt n.toInt from by (have k9 : ((-1) : Int32).toInt = -1 := (by decide); unfold zCopR; (repeat (first | rw [if_pos (by omega)] | rw [if_neg (by omega)])) <;> omega)), (show (((-1) : Int32).toInt = 1 → fe = va_cpy fe fe i.toNatClampNeg j.toNatClampNeg n.toNatClampNeg) from by (have k9 : ((-1) : Int32).toInt = -1 := (by decide); intro h; exfalso; omega)), (show (((-1) : Int32).toInt ≠ 1 → fe = fe) from by (have k9 : ((-1) : Int32).toInt = -1 := (by decide); intro h; exact rfl)), trivial⟩, zRet ht hP hD [3, 4, 0, 1, 2] (by decide) rfl⟩, hS.F ht⟩) hS.2.2 dX7_copy_29
    · rw [hfq (by omega) (by omega)]
      refine W.eq (g2 := F0 m 12 ls (.ref h0 :: [])) rfl ?_
      refine lv_astore (lv' := [(7, .ref h0), (6, .null), (0, .ref x0), (1, .int s_), (2, .int q_), (3, .int i), (4, .int j), (5, .int n)]) hx hb dX7_copy_12 hl (by decide) rfl (fun ls hl => ?_)
      refine lv_aloadN hx hb dX7_copy_14 (lv_at hl 1 rfl) ?_
      refine lv_ifnullN (tgt := 24) hx hb dX7_copy_16 (by decide) ?_
      refine lv_aload_n hx hb dX7_copy_24 rfl (lv_at hl 2 rfl) ?_
      refine lv_iconst (v := 1) hx hb dX7_copy_25 (by decide) ?_
      skip
      refine zw_V (As := [.int 1]) (rest := []) (wr := [(xs, .inl (cS, 8, .inr (.inr (.inr (.inr fh))))), (h0, .inr (4, [.ref e0, .int he, .int si])), (e0, .inl (cJ, 160, .inr (.inl fe)))]) ⟨hx, hb, hml, hown, hts⟩ (c_X_refuse_1 l D cI cJ cZ cP cS po x0 xs j0 k0 w0 rd mv xr (im) (lf) fr hy0 hy1 hy2 hy3 H.size) (cwV 1 hts gX7_copy_X7_refuse rfl rfl rfl ⟨rfl, dh_X7_refuse⟩ ⟨Nat.le_of_ble_eq_true rfl, Nat.le_of_ble_eq_true rfl⟩) hK hN (hZ.kept hS) hP hD hS hA [0, 1] [2, 3, 4] rfl rfl (by decide) (by decide) (by decide) (va_recv (q := (RX7, TX7, 9)) hK hP (ci := 7) (q0 := 0) rfl rfl) rfl hl.1 rfl (Nat.le_of_ble_eq_true rfl) dX7_copy_26 ⟨Nat.le_of_ble_eq_true rfl, Nat.le_of_ble_eq_true rfl⟩ (fun r_19 u_20 H locs hr_19 hP hD hS => ?_)
      obtain ⟨q_21, rfl⟩ : ∃ z, z = u_20 := ⟨_, rfl⟩
      have h9R := zRe (ws' := [(xs, .inl (cS, 8, .inr (.inr (.inr (.inr fh))))), (h0, .inr (4, [.ref e0, .int he, .int si])), (e0, .inl (cJ, 160, .inr (.inl fe))), (x0, .inr (7, [.ref xs, .ref j0, .ref k0, .ref w0, .ref rd, .ref mv, .ref xr, .int im, .int lf])), (xr, .inl (cI, 8, .inl q_21))]) hP hD rfl
      clear hP hD
      obtain ⟨hP, hD⟩ := h9R
      obtain rfl := hr_19
      exact W.iret (v := (-1)) hx hb hr (fun t ht hW => ⟨⟨(-1), (fe, q_21), rfl, ⟨(show ((-1) : Int32).toInt = zCopR s_.toInt q_.toInt he.toInt he.toInt si.toInt si.toInt i.toInt j.toInt n.toInt from by (have k9 : ((-1) : Int32).toInt = -1 := (by decide); unfold zCopR; (repeat (first | rw [if_pos (by omega)] | rw [if_neg (by omega)])) <;> omega)), (show (((-1) : Int32).toInt = 1 → fe = va_cpy fe fe i.toNatClampNeg j.toNatClampNeg n.toNatClampNeg) from by (have k9 : ((-1) : Int32).toInt = -1 := (by decide); intro h; exfalso; omega)), (show (((-1) : Int32).toInt ≠ 1 → fe = fe) from by (have k9 : ((-1) : Int32).toInt = -1 := (by decide); intro h; exact rfl)), trivial⟩, zRet ht hP hD [3, 4, 0, 1, 2] (by decide) rfl⟩, hS.F ht⟩) hS.2.2 dX7_copy_29
  · refine lv_astoreN (lv' := [(6, .null), (0, .ref x0), (1, .int s_), (2, .int q_), (3, .int i), (4, .int j), (5, .int n)]) hx hb dX7_copy_5 hl (by decide) rfl (fun ls hl => ?_)
    refine lv_aload_n hx hb dX7_copy_7 rfl (lv_at hl 1 rfl) ?_
    refine lv_iload_n hx hb dX7_copy_8 rfl (lv_at hl 3 rfl) ?_
    refine zc_Vq (As := [.int q_]) (rest := []) ⟨hx, hb, hml, hown, hts⟩ (c_X_shelfAt l D cI cJ cZ cP cS po x0 xs j0 k0 w0 rd mv xr (im) (lf) ((fun _ => 0)) fh (q_) hy0 hy1 hy2 hy3) (cwV 1 hts gX7_copy_X7_shelfAt rfl rfl rfl ⟨rfl, dh_X7_shelfAt⟩ ⟨Nat.le_of_ble_eq_true rfl, Nat.le_of_ble_eq_true rfl⟩) hK hN (hZ.kept hS) hP (hP.sub [0, 2] rfl) (va_recv (q := (RX7, TX7, 9)) hK hP (ci := 7) (q0 := 0) rfl rfl) rfl hl.1 rfl (Nat.le_of_ble_eq_true rfl) dX7_copy_9 ⟨Nat.le_of_ble_eq_true rfl, Nat.le_of_ble_eq_true rfl⟩ (fun r_22 hr_22 => ?_)
    rcases hr_22 with ⟨rfl, g_23⟩ | ⟨rfl, g_24, g_25⟩ | ⟨rfl, g_26, g_27⟩
    · refine lv_astoreN (lv' := [(7, .null), (6, .null), (0, .ref x0), (1, .int s_), (2, .int q_), (3, .int i), (4, .int j), (5, .int n)]) hx hb dX7_copy_12 hl (by decide) rfl (fun ls hl => ?_)
      refine lv_aloadN hx hb dX7_copy_14 (lv_at hl 1 rfl) ?_
      refine lv_ifnullN (tgt := 24) hx hb dX7_copy_16 (by decide) ?_
      refine lv_aload_n hx hb dX7_copy_24 rfl (lv_at hl 2 rfl) ?_
      refine lv_iconst (v := 1) hx hb dX7_copy_25 (by decide) ?_
      skip
      refine zw_V (As := [.int 1]) (rest := []) (wr := [(xs, .inl (cS, 8, .inr (.inr (.inr (.inr fh))))), (h0, .inr (4, [.ref e0, .int he, .int si])), (e0, .inl (cJ, 160, .inr (.inl fe)))]) ⟨hx, hb, hml, hown, hts⟩ (c_X_refuse_1 l D cI cJ cZ cP cS po x0 xs j0 k0 w0 rd mv xr (im) (lf) fr hy0 hy1 hy2 hy3 H.size) (cwV 1 hts gX7_copy_X7_refuse rfl rfl rfl ⟨rfl, dh_X7_refuse⟩ ⟨Nat.le_of_ble_eq_true rfl, Nat.le_of_ble_eq_true rfl⟩) hK hN (hZ.kept hS) hP hD hS hA [0, 1] [2, 3, 4] rfl rfl (by decide) (by decide) (by decide) (va_recv (q := (RX7, TX7, 9)) hK hP (ci := 7) (q0 := 0) rfl rfl) rfl hl.1 rfl (Nat.le_of_ble_eq_true rfl) dX7_copy_26 ⟨Nat.le_of_ble_eq_true rfl, Nat.le_of_ble_eq_true rfl⟩ (fun r_28 u_29 H locs hr_28 hP hD hS => ?_)
      obtain ⟨q_30, rfl⟩ : ∃ z, z = u_29 := ⟨_, rfl⟩
      have h9R := zRe (ws' := [(xs, .inl (cS, 8, .inr (.inr (.inr (.inr fh))))), (h0, .inr (4, [.ref e0, .int he, .int si])), (e0, .inl (cJ, 160, .inr (.inl fe))), (x0, .inr (7, [.ref xs, .ref j0, .ref k0, .ref w0, .ref rd, .ref mv, .ref xr, .int im, .int lf])), (xr, .inl (cI, 8, .inl q_30))]) hP hD rfl
      clear hP hD
      obtain ⟨hP, hD⟩ := h9R
      obtain rfl := hr_28
      exact W.iret (v := (-1)) hx hb hr (fun t ht hW => ⟨⟨(-1), (fe, q_30), rfl, ⟨(show ((-1) : Int32).toInt = zCopR s_.toInt q_.toInt he.toInt he.toInt si.toInt si.toInt i.toInt j.toInt n.toInt from by (have k9 : ((-1) : Int32).toInt = -1 := (by decide); unfold zCopR; (repeat (first | rw [if_pos (by omega)] | rw [if_neg (by omega)])) <;> omega)), (show (((-1) : Int32).toInt = 1 → fe = va_cpy fe fe i.toNatClampNeg j.toNatClampNeg n.toNatClampNeg) from by (have k9 : ((-1) : Int32).toInt = -1 := (by decide); intro h; exfalso; omega)), (show (((-1) : Int32).toInt ≠ 1 → fe = fe) from by (have k9 : ((-1) : Int32).toInt = -1 := (by decide); intro h; exact rfl)), trivial⟩, zRet ht hP hD [3, 4, 0, 1, 2] (by decide) rfl⟩, hS.F ht⟩) hS.2.2 dX7_copy_29
    · refine lv_astoreN (lv' := [(7, .null), (6, .null), (0, .ref x0), (1, .int s_), (2, .int q_), (3, .int i), (4, .int j), (5, .int n)]) hx hb dX7_copy_12 hl (by decide) rfl (fun ls hl => ?_)
      refine lv_aloadN hx hb dX7_copy_14 (lv_at hl 1 rfl) ?_
      refine lv_ifnullN (tgt := 24) hx hb dX7_copy_16 (by decide) ?_
      refine lv_aload_n hx hb dX7_copy_24 rfl (lv_at hl 2 rfl) ?_
      refine lv_iconst (v := 1) hx hb dX7_copy_25 (by decide) ?_
      skip
      refine zw_V (As := [.int 1]) (rest := []) (wr := [(xs, .inl (cS, 8, .inr (.inr (.inr (.inr fh))))), (h0, .inr (4, [.ref e0, .int he, .int si])), (e0, .inl (cJ, 160, .inr (.inl fe)))]) ⟨hx, hb, hml, hown, hts⟩ (c_X_refuse_1 l D cI cJ cZ cP cS po x0 xs j0 k0 w0 rd mv xr (im) (lf) fr hy0 hy1 hy2 hy3 H.size) (cwV 1 hts gX7_copy_X7_refuse rfl rfl rfl ⟨rfl, dh_X7_refuse⟩ ⟨Nat.le_of_ble_eq_true rfl, Nat.le_of_ble_eq_true rfl⟩) hK hN (hZ.kept hS) hP hD hS hA [0, 1] [2, 3, 4] rfl rfl (by decide) (by decide) (by decide) (va_recv (q := (RX7, TX7, 9)) hK hP (ci := 7) (q0 := 0) rfl rfl) rfl hl.1 rfl (Nat.le_of_ble_eq_true rfl) dX7_copy_26 ⟨Nat.le_of_ble_eq_true rfl, Nat.le_of_ble_eq_true rfl⟩ (fun r_31 u_32 H locs hr_31 hP hD hS => ?_)
      obtain ⟨q_33, rfl⟩ : ∃ z, z = u_32 := ⟨_, rfl⟩
      have h9R := zRe (ws' := [(xs, .inl (cS, 8, .inr (.inr (.inr (.inr fh))))), (h0, .inr (4, [.ref e0, .int he, .int si])), (e0, .inl (cJ, 160, .inr (.inl fe))), (x0, .inr (7, [.ref xs, .ref j0, .ref k0, .ref w0, .ref rd, .ref mv, .ref xr, .int im, .int lf])), (xr, .inl (cI, 8, .inl q_33))]) hP hD rfl
      clear hP hD
      obtain ⟨hP, hD⟩ := h9R
      obtain rfl := hr_31
      exact W.iret (v := (-1)) hx hb hr (fun t ht hW => ⟨⟨(-1), (fe, q_33), rfl, ⟨(show ((-1) : Int32).toInt = zCopR s_.toInt q_.toInt he.toInt he.toInt si.toInt si.toInt i.toInt j.toInt n.toInt from by (have k9 : ((-1) : Int32).toInt = -1 := (by decide); unfold zCopR; (repeat (first | rw [if_pos (by omega)] | rw [if_neg (by omega)])) <;> omega)), (show (((-1) : Int32).toInt = 1 → fe = va_cpy fe fe i.toNatClampNeg j.toNatClampNeg n.toNatClampNeg) from by (have k9 : ((-1) : Int32).toInt = -1 := (by decide); intro h; exfalso; omega)), (show (((-1) : Int32).toInt ≠ 1 → fe = fe) from by (have k9 : ((-1) : Int32).toInt = -1 := (by decide); intro h; exact rfl)), trivial⟩, zRet ht hP hD [3, 4, 0, 1, 2] (by decide) rfl⟩, hS.F ht⟩) hS.2.2 dX7_copy_29
    · rw [hfq (by omega) (by omega)]
      refine W.eq (g2 := F0 m 12 ls (.ref h0 :: [])) rfl ?_
      refine lv_astore (lv' := [(7, .ref h0), (6, .null), (0, .ref x0), (1, .int s_), (2, .int q_), (3, .int i), (4, .int j), (5, .int n)]) hx hb dX7_copy_12 hl (by decide) rfl (fun ls hl => ?_)
      refine lv_aloadN hx hb dX7_copy_14 (lv_at hl 1 rfl) ?_
      refine lv_ifnullN (tgt := 24) hx hb dX7_copy_16 (by decide) ?_
      refine lv_aload_n hx hb dX7_copy_24 rfl (lv_at hl 2 rfl) ?_
      refine lv_iconst (v := 1) hx hb dX7_copy_25 (by decide) ?_
      skip
      refine zw_V (As := [.int 1]) (rest := []) (wr := [(xs, .inl (cS, 8, .inr (.inr (.inr (.inr fh))))), (h0, .inr (4, [.ref e0, .int he, .int si])), (e0, .inl (cJ, 160, .inr (.inl fe)))]) ⟨hx, hb, hml, hown, hts⟩ (c_X_refuse_1 l D cI cJ cZ cP cS po x0 xs j0 k0 w0 rd mv xr (im) (lf) fr hy0 hy1 hy2 hy3 H.size) (cwV 1 hts gX7_copy_X7_refuse rfl rfl rfl ⟨rfl, dh_X7_refuse⟩ ⟨Nat.le_of_ble_eq_true rfl, Nat.le_of_ble_eq_true rfl⟩) hK hN (hZ.kept hS) hP hD hS hA [0, 1] [2, 3, 4] rfl rfl (by decide) (by decide) (by decide) (va_recv (q := (RX7, TX7, 9)) hK hP (ci := 7) (q0 := 0) rfl rfl) rfl hl.1 rfl (Nat.le_of_ble_eq_true rfl) dX7_copy_26 ⟨Nat.le_of_ble_eq_true rfl, Nat.le_of_ble_eq_true rfl⟩ (fun r_34 u_35 H locs hr_34 hP hD hS => ?_)
      obtain ⟨q_36, rfl⟩ : ∃ z, z = u_35 := ⟨_, rfl⟩
      have h9R := zRe (ws' := [(xs, .inl (cS, 8, .inr (.inr (.inr (.inr fh))))), (h0, .inr (4, [.ref e0, .int he, .int si])), (e0, .inl (cJ, 160, .inr (.inl fe))), (x0, .inr (7, [.ref xs, .ref j0, .ref k0, .ref w0, .ref rd, .ref mv, .ref xr, .int im, .int lf])), (xr, .inl (cI, 8, .inl q_36))]) hP hD rfl
      clear hP hD
      obtain ⟨hP, hD⟩ := h9R
      obtain rfl := hr_34
      exact W.iret (v := (-1)) hx hb hr (fun t ht hW => ⟨⟨(-1), (fe, q_36), rfl, ⟨(show ((-1) : Int32).toInt = zCopR s_.toInt q_.toInt he.toInt he.toInt si.toInt si.toInt i.toInt j.toInt n.toInt from by (have k9 : ((-1) : Int32).toInt = -1 := (by decide); unfold zCopR; (repeat (first | rw [if_pos (by omega)] | rw [if_neg (by omega)])) <;> omega)), (show (((-1) : Int32).toInt = 1 → fe = va_cpy fe fe i.toNatClampNeg j.toNatClampNeg n.toNatClampNeg) from by (have k9 : ((-1) : Int32).toInt = -1 := (by decide); intro h; exfalso; omega)), (show (((-1) : Int32).toInt ≠ 1 → fe = fe) from by (have k9 : ((-1) : Int32).toInt = -1 := (by decide); intro h; exact rfl)), trivial⟩, zRet ht hP hD [3, 4, 0, 1, 2] (by decide) rfl⟩, hS.F ht⟩) hS.2.2 dX7_copy_29
  · rw [hfs (by omega) (by omega)]
    refine W.eq (g2 := F0 m 5 ls (.ref h0 :: [])) rfl ?_
    refine lv_astore (lv' := [(6, .ref h0), (0, .ref x0), (1, .int s_), (2, .int q_), (3, .int i), (4, .int j), (5, .int n)]) hx hb dX7_copy_5 hl (by decide) rfl (fun ls hl => ?_)
    refine lv_aload_n hx hb dX7_copy_7 rfl (lv_at hl 1 rfl) ?_
    refine lv_iload_n hx hb dX7_copy_8 rfl (lv_at hl 3 rfl) ?_
    refine zc_Vq (As := [.int q_]) (rest := []) ⟨hx, hb, hml, hown, hts⟩ (c_X_shelfAt l D cI cJ cZ cP cS po x0 xs j0 k0 w0 rd mv xr (im) (lf) ((fun _ => 0)) fh (q_) hy0 hy1 hy2 hy3) (cwV 1 hts gX7_copy_X7_shelfAt rfl rfl rfl ⟨rfl, dh_X7_shelfAt⟩ ⟨Nat.le_of_ble_eq_true rfl, Nat.le_of_ble_eq_true rfl⟩) hK hN (hZ.kept hS) hP (hP.sub [0, 2] rfl) (va_recv (q := (RX7, TX7, 9)) hK hP (ci := 7) (q0 := 0) rfl rfl) rfl hl.1 rfl (Nat.le_of_ble_eq_true rfl) dX7_copy_9 ⟨Nat.le_of_ble_eq_true rfl, Nat.le_of_ble_eq_true rfl⟩ (fun r_37 hr_37 => ?_)
    rcases hr_37 with ⟨rfl, g_38⟩ | ⟨rfl, g_39, g_40⟩ | ⟨rfl, g_41, g_42⟩
    · refine lv_astoreN (lv' := [(7, .null), (6, .ref h0), (0, .ref x0), (1, .int s_), (2, .int q_), (3, .int i), (4, .int j), (5, .int n)]) hx hb dX7_copy_12 hl (by decide) rfl (fun ls hl => ?_)
      refine lv_aload hx hb dX7_copy_14 (lv_at hl 1 rfl) ?_
      refine lv_ifnull hx hb dX7_copy_16 ?_
      refine lv_aloadN hx hb dX7_copy_19 (lv_at hl 0 rfl) ?_
      refine lv_ifnonnullN hx hb dX7_copy_21 ?_
      refine lv_aload_n hx hb dX7_copy_24 rfl (lv_at hl 2 rfl) ?_
      refine lv_iconst (v := 1) hx hb dX7_copy_25 (by decide) ?_
      skip
      refine zw_V (As := [.int 1]) (rest := []) (wr := [(xs, .inl (cS, 8, .inr (.inr (.inr (.inr fh))))), (h0, .inr (4, [.ref e0, .int he, .int si])), (e0, .inl (cJ, 160, .inr (.inl fe)))]) ⟨hx, hb, hml, hown, hts⟩ (c_X_refuse_1 l D cI cJ cZ cP cS po x0 xs j0 k0 w0 rd mv xr (im) (lf) fr hy0 hy1 hy2 hy3 H.size) (cwV 1 hts gX7_copy_X7_refuse rfl rfl rfl ⟨rfl, dh_X7_refuse⟩ ⟨Nat.le_of_ble_eq_true rfl, Nat.le_of_ble_eq_true rfl⟩) hK hN (hZ.kept hS) hP hD hS hA [0, 1] [2, 3, 4] rfl rfl (by decide) (by decide) (by decide) (va_recv (q := (RX7, TX7, 9)) hK hP (ci := 7) (q0 := 0) rfl rfl) rfl hl.1 rfl (Nat.le_of_ble_eq_true rfl) dX7_copy_26 ⟨Nat.le_of_ble_eq_true rfl, Nat.le_of_ble_eq_true rfl⟩ (fun r_43 u_44 H locs hr_43 hP hD hS => ?_)
      obtain ⟨q_45, rfl⟩ : ∃ z, z = u_44 := ⟨_, rfl⟩
      have h9R := zRe (ws' := [(xs, .inl (cS, 8, .inr (.inr (.inr (.inr fh))))), (h0, .inr (4, [.ref e0, .int he, .int si])), (e0, .inl (cJ, 160, .inr (.inl fe))), (x0, .inr (7, [.ref xs, .ref j0, .ref k0, .ref w0, .ref rd, .ref mv, .ref xr, .int im, .int lf])), (xr, .inl (cI, 8, .inl q_45))]) hP hD rfl
      clear hP hD
      obtain ⟨hP, hD⟩ := h9R
      obtain rfl := hr_43
      exact W.iret (v := (-1)) hx hb hr (fun t ht hW => ⟨⟨(-1), (fe, q_45), rfl, ⟨(show ((-1) : Int32).toInt = zCopR s_.toInt q_.toInt he.toInt he.toInt si.toInt si.toInt i.toInt j.toInt n.toInt from by (have k9 : ((-1) : Int32).toInt = -1 := (by decide); unfold zCopR; (repeat (first | rw [if_pos (by omega)] | rw [if_neg (by omega)])) <;> omega)), (show (((-1) : Int32).toInt = 1 → fe = va_cpy fe fe i.toNatClampNeg j.toNatClampNeg n.toNatClampNeg) from by (have k9 : ((-1) : Int32).toInt = -1 := (by decide); intro h; exfalso; omega)), (show (((-1) : Int32).toInt ≠ 1 → fe = fe) from by (have k9 : ((-1) : Int32).toInt = -1 := (by decide); intro h; exact rfl)), trivial⟩, zRet ht hP hD [3, 4, 0, 1, 2] (by decide) rfl⟩, hS.F ht⟩) hS.2.2 dX7_copy_29
    · refine lv_astoreN (lv' := [(7, .null), (6, .ref h0), (0, .ref x0), (1, .int s_), (2, .int q_), (3, .int i), (4, .int j), (5, .int n)]) hx hb dX7_copy_12 hl (by decide) rfl (fun ls hl => ?_)
      refine lv_aload hx hb dX7_copy_14 (lv_at hl 1 rfl) ?_
      refine lv_ifnull hx hb dX7_copy_16 ?_
      refine lv_aloadN hx hb dX7_copy_19 (lv_at hl 0 rfl) ?_
      refine lv_ifnonnullN hx hb dX7_copy_21 ?_
      refine lv_aload_n hx hb dX7_copy_24 rfl (lv_at hl 2 rfl) ?_
      refine lv_iconst (v := 1) hx hb dX7_copy_25 (by decide) ?_
      skip
      refine zw_V (As := [.int 1]) (rest := []) (wr := [(xs, .inl (cS, 8, .inr (.inr (.inr (.inr fh))))), (h0, .inr (4, [.ref e0, .int he, .int si])), (e0, .inl (cJ, 160, .inr (.inl fe)))]) ⟨hx, hb, hml, hown, hts⟩ (c_X_refuse_1 l D cI cJ cZ cP cS po x0 xs j0 k0 w0 rd mv xr (im) (lf) fr hy0 hy1 hy2 hy3 H.size) (cwV 1 hts gX7_copy_X7_refuse rfl rfl rfl ⟨rfl, dh_X7_refuse⟩ ⟨Nat.le_of_ble_eq_true rfl, Nat.le_of_ble_eq_true rfl⟩) hK hN (hZ.kept hS) hP hD hS hA [0, 1] [2, 3, 4] rfl rfl (by decide) (by decide) (by decide) (va_recv (q := (RX7, TX7, 9)) hK hP (ci := 7) (q0 := 0) rfl rfl) rfl hl.1 rfl (Nat.le_of_ble_eq_true rfl) dX7_copy_26 ⟨Nat.le_of_ble_eq_true rfl, Nat.le_of_ble_eq_true rfl⟩ (fun r_46 u_47 H locs hr_46 hP hD hS => ?_)
      obtain ⟨q_48, rfl⟩ : ∃ z, z = u_47 := ⟨_, rfl⟩
      have h9R := zRe (ws' := [(xs, .inl (cS, 8, .inr (.inr (.inr (.inr fh))))), (h0, .inr (4, [.ref e0, .int he, .int si])), (e0, .inl (cJ, 160, .inr (.inl fe))), (x0, .inr (7, [.ref xs, .ref j0, .ref k0, .ref w0, .ref rd, .ref mv, .ref xr, .int im, .int lf])), (xr, .inl (cI, 8, .inl q_48))]) hP hD rfl
      clear hP hD
      obtain ⟨hP, hD⟩ := h9R
      obtain rfl := hr_46
      exact W.iret (v := (-1)) hx hb hr (fun t ht hW => ⟨⟨(-1), (fe, q_48), rfl, ⟨(show ((-1) : Int32).toInt = zCopR s_.toInt q_.toInt he.toInt he.toInt si.toInt si.toInt i.toInt j.toInt n.toInt from by (have k9 : ((-1) : Int32).toInt = -1 := (by decide); unfold zCopR; (repeat (first | rw [if_pos (by omega)] | rw [if_neg (by omega)])) <;> omega)), (show (((-1) : Int32).toInt = 1 → fe = va_cpy fe fe i.toNatClampNeg j.toNatClampNeg n.toNatClampNeg) from by (have k9 : ((-1) : Int32).toInt = -1 := (by decide); intro h; exfalso; omega)), (show (((-1) : Int32).toInt ≠ 1 → fe = fe) from by (have k9 : ((-1) : Int32).toInt = -1 := (by decide); intro h; exact rfl)), trivial⟩, zRet ht hP hD [3, 4, 0, 1, 2] (by decide) rfl⟩, hS.F ht⟩) hS.2.2 dX7_copy_29
    · rw [hfq (by omega) (by omega)]
      refine W.eq (g2 := F0 m 12 ls (.ref h0 :: [])) rfl ?_
      refine lv_astore (lv' := [(7, .ref h0), (6, .ref h0), (0, .ref x0), (1, .int s_), (2, .int q_), (3, .int i), (4, .int j), (5, .int n)]) hx hb dX7_copy_12 hl (by decide) rfl (fun ls hl => ?_)
      refine lv_aload hx hb dX7_copy_14 (lv_at hl 1 rfl) ?_
      refine lv_ifnull hx hb dX7_copy_16 ?_
      refine lv_aload hx hb dX7_copy_19 (lv_at hl 0 rfl) ?_
      refine lv_ifnonnull (tgt := 30) hx hb dX7_copy_21 (by decide) ?_
      refine lv_aload hx hb dX7_copy_30 (lv_at hl 1 rfl) ?_
      refine zc_V (As := []) (rest := []) ⟨hx, hb, hml, hown, hts⟩ (c_Sh_noRow l D cI cJ cZ cP cS po h0 e0 (he) (si) hy4 hy5 hy6 hy7) (cwV 0 hts gX7_copy_X4_noRow rfl rfl rfl ⟨rfl, dh_X4_noRow⟩ ⟨Nat.le_of_ble_eq_true rfl, Nat.le_of_ble_eq_true rfl⟩) hK hN (hZ.kept hS) hP (hP.sub [3] rfl) (va_recv (q := (RX4, TX4, 3)) hK hP (ci := 4) (q0 := 3) rfl rfl) rfl hl.1 rfl (Nat.le_of_ble_eq_true rfl) dX7_copy_32 ⟨Nat.le_of_ble_eq_true rfl, Nat.le_of_ble_eq_true rfl⟩ (fun r_49 hr_49 => ?_)
      rcases hr_49 with ⟨rfl, g_50, g_51⟩ | ⟨rfl, g_52, g_53⟩ | ⟨rfl, g_54⟩
      · refine lv_istore (lv' := [(8, .int 2), (7, .ref h0), (6, .ref h0), (0, .ref x0), (1, .int s_), (2, .int q_), (3, .int i), (4, .int j), (5, .int n)]) hx hb dX7_copy_35 hl (by decide) rfl (fun ls hl => ?_)
        refine lv_aload hx hb dX7_copy_37 (lv_at hl 1 rfl) ?_
        refine zc_V (As := []) (rest := []) ⟨hx, hb, hml, hown, hts⟩ (c_Sh_noRow l D cI cJ cZ cP cS po h0 e0 (he) (si) hy4 hy5 hy6 hy7) (cwV 0 hts gX7_copy_X4_noRow rfl rfl rfl ⟨rfl, dh_X4_noRow⟩ ⟨Nat.le_of_ble_eq_true rfl, Nat.le_of_ble_eq_true rfl⟩) hK hN (hZ.kept hS) hP (hP.sub [3] rfl) (va_recv (q := (RX4, TX4, 3)) hK hP (ci := 4) (q0 := 3) rfl rfl) rfl hl.1 rfl (Nat.le_of_ble_eq_true rfl) dX7_copy_39 ⟨Nat.le_of_ble_eq_true rfl, Nat.le_of_ble_eq_true rfl⟩ (fun r_55 hr_55 => ?_)
        rcases hr_55 with ⟨rfl, g_56, g_57⟩ | ⟨rfl, g_58, g_59⟩ | ⟨rfl, g_60⟩
        · refine lv_istore (lv' := [(9, .int 2), (8, .int 2), (7, .ref h0), (6, .ref h0), (0, .ref x0), (1, .int s_), (2, .int q_), (3, .int i), (4, .int j), (5, .int n)]) hx hb dX7_copy_42 hl (by decide) rfl (fun ls hl => ?_)
          refine lv_iload hx hb dX7_copy_44 (lv_at hl 1 rfl) ?_
          refine lv_if_ne (tgt := 71) hx hb dX7_copy_46 (by decide) (fun c_61 => ?_) (fun c_61 => ?_)
          · refine lv_iconst (v := 0) hx hb dX7_copy_71 (by decide) ?_
            refine lv_istore (lv' := [(10, .int 0), (9, .int 2), (8, .int 2), (7, .ref h0), (6, .ref h0), (0, .ref x0), (1, .int s_), (2, .int q_), (3, .int i), (4, .int j), (5, .int n)]) hx hb dX7_copy_72 hl (by decide) rfl (fun ls hl => ?_)
            refine lv_iload hx hb dX7_copy_74 (lv_at hl 2 rfl) ?_
            refine lv_iconst (v := 2) hx hb dX7_copy_76 (by decide) ?_
            refine lv_icmp_eq (tgt := 91) hx hb dX7_copy_77 (by decide) (fun c_62 => ?_) (fun c_62 => ?_)
            · refine lv_aload_n hx hb dX7_copy_91 rfl (lv_at hl 5 rfl) ?_
              refine lv_iconst (v := 2) hx hb dX7_copy_92 (by decide) ?_
              skip
              refine zw_V (As := [.int 2]) (rest := []) (wr := [(xs, .inl (cS, 8, .inr (.inr (.inr (.inr fh))))), (h0, .inr (4, [.ref e0, .int he, .int si])), (e0, .inl (cJ, 160, .inr (.inl fe)))]) ⟨hx, hb, hml, hown, hts⟩ (c_X_refuse_2 l D cI cJ cZ cP cS po x0 xs j0 k0 w0 rd mv xr (im) (lf) fr hy0 hy1 hy2 hy3 H.size) (cwV 1 hts gX7_copy_X7_refuse rfl rfl rfl ⟨rfl, dh_X7_refuse⟩ ⟨Nat.le_of_ble_eq_true rfl, Nat.le_of_ble_eq_true rfl⟩) hK hN (hZ.kept hS) hP hD hS hA [0, 1] [2, 3, 4] rfl rfl (by decide) (by decide) (by decide) (va_recv (q := (RX7, TX7, 9)) hK hP (ci := 7) (q0 := 0) rfl rfl) rfl hl.1 rfl (Nat.le_of_ble_eq_true rfl) dX7_copy_93 ⟨Nat.le_of_ble_eq_true rfl, Nat.le_of_ble_eq_true rfl⟩ (fun r_63 u_64 H locs hr_63 hP hD hS => ?_)
              obtain ⟨q_65, rfl⟩ : ∃ z, z = u_64 := ⟨_, rfl⟩
              have h9R := zRe (ws' := [(xs, .inl (cS, 8, .inr (.inr (.inr (.inr fh))))), (h0, .inr (4, [.ref e0, .int he, .int si])), (e0, .inl (cJ, 160, .inr (.inl fe))), (x0, .inr (7, [.ref xs, .ref j0, .ref k0, .ref w0, .ref rd, .ref mv, .ref xr, .int im, .int lf])), (xr, .inl (cI, 8, .inl q_65))]) hP hD rfl
              clear hP hD
              obtain ⟨hP, hD⟩ := h9R
              obtain rfl := hr_63
              exact W.iret (v := (-2)) hx hb hr (fun t ht hW => ⟨⟨(-2), (fe, q_65), rfl, ⟨(show ((-2) : Int32).toInt = zCopR s_.toInt q_.toInt he.toInt he.toInt si.toInt si.toInt i.toInt j.toInt n.toInt from by (have k9 : ((-2) : Int32).toInt = -2 := (by decide); unfold zCopR; (repeat (first | rw [if_pos (by omega)] | rw [if_neg (by omega)])) <;> omega)), (show (((-2) : Int32).toInt = 1 → fe = va_cpy fe fe i.toNatClampNeg j.toNatClampNeg n.toNatClampNeg) from by (have k9 : ((-2) : Int32).toInt = -2 := (by decide); intro h; exfalso; omega)), (show (((-2) : Int32).toInt ≠ 1 → fe = fe) from by (have k9 : ((-2) : Int32).toInt = -2 := (by decide); intro h; exact rfl)), trivial⟩, zRet ht hP hD [3, 4, 0, 1, 2] (by decide) rfl⟩, hS.F ht⟩) hS.2.2 dX7_copy_96
            · exact absurd c_62 (by decide)
          · exact absurd c_61 (by decide)
        · exfalso; omega
        · exfalso; omega
      · refine lv_istore (lv' := [(8, .int 3), (7, .ref h0), (6, .ref h0), (0, .ref x0), (1, .int s_), (2, .int q_), (3, .int i), (4, .int j), (5, .int n)]) hx hb dX7_copy_35 hl (by decide) rfl (fun ls hl => ?_)
        refine lv_aload hx hb dX7_copy_37 (lv_at hl 1 rfl) ?_
        refine zc_V (As := []) (rest := []) ⟨hx, hb, hml, hown, hts⟩ (c_Sh_noRow l D cI cJ cZ cP cS po h0 e0 (he) (si) hy4 hy5 hy6 hy7) (cwV 0 hts gX7_copy_X4_noRow rfl rfl rfl ⟨rfl, dh_X4_noRow⟩ ⟨Nat.le_of_ble_eq_true rfl, Nat.le_of_ble_eq_true rfl⟩) hK hN (hZ.kept hS) hP (hP.sub [3] rfl) (va_recv (q := (RX4, TX4, 3)) hK hP (ci := 4) (q0 := 3) rfl rfl) rfl hl.1 rfl (Nat.le_of_ble_eq_true rfl) dX7_copy_39 ⟨Nat.le_of_ble_eq_true rfl, Nat.le_of_ble_eq_true rfl⟩ (fun r_66 hr_66 => ?_)
        rcases hr_66 with ⟨rfl, g_67, g_68⟩ | ⟨rfl, g_69, g_70⟩ | ⟨rfl, g_71⟩
        · exfalso; omega
        · refine lv_istore (lv' := [(9, .int 3), (8, .int 3), (7, .ref h0), (6, .ref h0), (0, .ref x0), (1, .int s_), (2, .int q_), (3, .int i), (4, .int j), (5, .int n)]) hx hb dX7_copy_42 hl (by decide) rfl (fun ls hl => ?_)
          refine lv_iload hx hb dX7_copy_44 (lv_at hl 1 rfl) ?_
          refine lv_if_ne (tgt := 71) hx hb dX7_copy_46 (by decide) (fun c_72 => ?_) (fun c_72 => ?_)
          · refine lv_iconst (v := 0) hx hb dX7_copy_71 (by decide) ?_
            refine lv_istore (lv' := [(10, .int 0), (9, .int 3), (8, .int 3), (7, .ref h0), (6, .ref h0), (0, .ref x0), (1, .int s_), (2, .int q_), (3, .int i), (4, .int j), (5, .int n)]) hx hb dX7_copy_72 hl (by decide) rfl (fun ls hl => ?_)
            refine lv_iload hx hb dX7_copy_74 (lv_at hl 2 rfl) ?_
            refine lv_iconst (v := 2) hx hb dX7_copy_76 (by decide) ?_
            refine lv_icmp_eq (tgt := 91) hx hb dX7_copy_77 (by decide) (fun c_73 => ?_) (fun c_73 => ?_)
            · exact absurd c_73 (by decide)
            · refine lv_iload hx hb dX7_copy_80 (lv_at hl 1 rfl) ?_
              refine lv_iconst (v := 2) hx hb dX7_copy_82 (by decide) ?_
              refine lv_icmp_eq (tgt := 91) hx hb dX7_copy_83 (by decide) (fun c_74 => ?_) (fun c_74 => ?_)
              · exact absurd c_74 (by decide)
              · refine lv_iload hx hb dX7_copy_86 (lv_at hl 0 rfl) ?_
                refine lv_if_eq (tgt := 97) hx hb dX7_copy_88 (by decide) (fun c_75 => ?_) (fun c_75 => ?_)
                · refine lv_iload hx hb dX7_copy_97 (lv_at hl 2 rfl) ?_
                  refine lv_iconst (v := 3) hx hb dX7_copy_99 (by decide) ?_
                  refine lv_icmp_eq (tgt := 109) hx hb dX7_copy_100 (by decide) (fun c_76 => ?_) (fun c_76 => ?_)
                  · refine lv_aload_n hx hb dX7_copy_109 rfl (lv_at hl 5 rfl) ?_
                    refine lv_iconst (v := 3) hx hb dX7_copy_110 (by decide) ?_
                    skip
                    refine zw_V (As := [.int 3]) (rest := []) (wr := [(xs, .inl (cS, 8, .inr (.inr (.inr (.inr fh))))), (h0, .inr (4, [.ref e0, .int he, .int si])), (e0, .inl (cJ, 160, .inr (.inl fe)))]) ⟨hx, hb, hml, hown, hts⟩ (c_X_refuse_3 l D cI cJ cZ cP cS po x0 xs j0 k0 w0 rd mv xr (im) (lf) fr hy0 hy1 hy2 hy3 H.size) (cwV 1 hts gX7_copy_X7_refuse rfl rfl rfl ⟨rfl, dh_X7_refuse⟩ ⟨Nat.le_of_ble_eq_true rfl, Nat.le_of_ble_eq_true rfl⟩) hK hN (hZ.kept hS) hP hD hS hA [0, 1] [2, 3, 4] rfl rfl (by decide) (by decide) (by decide) (va_recv (q := (RX7, TX7, 9)) hK hP (ci := 7) (q0 := 0) rfl rfl) rfl hl.1 rfl (Nat.le_of_ble_eq_true rfl) dX7_copy_111 ⟨Nat.le_of_ble_eq_true rfl, Nat.le_of_ble_eq_true rfl⟩ (fun r_77 u_78 H locs hr_77 hP hD hS => ?_)
                    obtain ⟨q_79, rfl⟩ : ∃ z, z = u_78 := ⟨_, rfl⟩
                    have h9R := zRe (ws' := [(xs, .inl (cS, 8, .inr (.inr (.inr (.inr fh))))), (h0, .inr (4, [.ref e0, .int he, .int si])), (e0, .inl (cJ, 160, .inr (.inl fe))), (x0, .inr (7, [.ref xs, .ref j0, .ref k0, .ref w0, .ref rd, .ref mv, .ref xr, .int im, .int lf])), (xr, .inl (cI, 8, .inl q_79))]) hP hD rfl
                    clear hP hD
                    obtain ⟨hP, hD⟩ := h9R
                    obtain rfl := hr_77
                    exact W.iret (v := (-3)) hx hb hr (fun t ht hW => ⟨⟨(-3), (fe, q_79), rfl, ⟨(show ((-3) : Int32).toInt = zCopR s_.toInt q_.toInt he.toInt he.toInt si.toInt si.toInt i.toInt j.toInt n.toInt from by (have k9 : ((-3) : Int32).toInt = -3 := (by decide); unfold zCopR; (repeat (first | rw [if_pos (by omega)] | rw [if_neg (by omega)])) <;> omega)), (show (((-3) : Int32).toInt = 1 → fe = va_cpy fe fe i.toNatClampNeg j.toNatClampNeg n.toNatClampNeg) from by (have k9 : ((-3) : Int32).toInt = -3 := (by decide); intro h; exfalso; omega)), (show (((-3) : Int32).toInt ≠ 1 → fe = fe) from by (have k9 : ((-3) : Int32).toInt = -3 := (by decide); intro h; exact rfl)), trivial⟩, zRet ht hP hD [3, 4, 0, 1, 2] (by decide) rfl⟩, hS.F ht⟩) hS.2.2 dX7_copy_114
                  · exact absurd c_76 (by decide)
                · exact absurd c_75 (by decide)
          · exact absurd c_72 (by decide)
        · exfalso; omega
      · refine lv_istore (lv' := [(8, .int 0), (7, .ref h0), (6, .ref h0), (0, .ref x0), (1, .int s_), (2, .int q_), (3, .int i), (4, .int j), (5, .int n)]) hx hb dX7_copy_35 hl (by decide) rfl (fun ls hl => ?_)
        refine lv_aload hx hb dX7_copy_37 (lv_at hl 1 rfl) ?_
        refine zc_V (As := []) (rest := []) ⟨hx, hb, hml, hown, hts⟩ (c_Sh_noRow l D cI cJ cZ cP cS po h0 e0 (he) (si) hy4 hy5 hy6 hy7) (cwV 0 hts gX7_copy_X4_noRow rfl rfl rfl ⟨rfl, dh_X4_noRow⟩ ⟨Nat.le_of_ble_eq_true rfl, Nat.le_of_ble_eq_true rfl⟩) hK hN (hZ.kept hS) hP (hP.sub [3] rfl) (va_recv (q := (RX4, TX4, 3)) hK hP (ci := 4) (q0 := 3) rfl rfl) rfl hl.1 rfl (Nat.le_of_ble_eq_true rfl) dX7_copy_39 ⟨Nat.le_of_ble_eq_true rfl, Nat.le_of_ble_eq_true rfl⟩ (fun r_80 hr_80 => ?_)
        rcases hr_80 with ⟨rfl, g_81, g_82⟩ | ⟨rfl, g_83, g_84⟩ | ⟨rfl, g_85⟩
        · exfalso; omega
        · exfalso; omega
        · refine lv_istore (lv' := [(9, .int 0), (8, .int 0), (7, .ref h0), (6, .ref h0), (0, .ref x0), (1, .int s_), (2, .int q_), (3, .int i), (4, .int j), (5, .int n)]) hx hb dX7_copy_42 hl (by decide) rfl (fun ls hl => ?_)
          refine lv_iload hx hb dX7_copy_44 (lv_at hl 1 rfl) ?_
          refine lv_if_ne (tgt := 71) hx hb dX7_copy_46 (by decide) (fun c_86 => ?_) (fun c_86 => ?_)
          · exact absurd c_86 (by decide)
          · refine lv_iload hx hb dX7_copy_49 (lv_at hl 0 rfl) ?_
            refine lv_if_ne (tgt := 71) hx hb dX7_copy_51 (by decide) (fun c_87 => ?_) (fun c_87 => ?_)
            · exact absurd c_87 (by decide)
            · refine lv_aload hx hb dX7_copy_54 (lv_at hl 3 rfl) ?_
              refine va_get (D := D) (ci := 4) (v := .int he) (C := RX4) (T := TX4) (N := 3) hx hb hts hi_X7_copy_4 hown hK hP 3 rfl rfl 1 (by decide) (hts (.fieldLink RX7 87 "TheLiningsInIt$Shelf" "held" "I") (List.mem_of_getElem? (i := 1) rfl)) (fun _ h9 => h9) rfl dX7_copy_56 ?_
              refine lv_aload hx hb dX7_copy_59 (lv_at hl 2 rfl) ?_
              refine va_get (D := D) (ci := 4) (v := .int he) (C := RX4) (T := TX4) (N := 3) hx hb hts hi_X7_copy_4 hown hK hP 3 rfl rfl 1 (by decide) (hts (.fieldLink RX7 87 "TheLiningsInIt$Shelf" "held" "I") (List.mem_of_getElem? (i := 1) rfl)) (fun _ h9 => h9) rfl dX7_copy_61 ?_
              refine lv_icmp_eq (tgt := 71) hx hb dX7_copy_64 (by decide) (fun c_88 => ?_) (fun c_88 => ?_)
              · have fc_88 : he.toInt = he.toInt := zf_eq c_88 rfl rfl
                refine lv_iconst (v := 0) hx hb dX7_copy_71 (by decide) ?_
                refine lv_istore (lv' := [(10, .int 0), (9, .int 0), (8, .int 0), (7, .ref h0), (6, .ref h0), (0, .ref x0), (1, .int s_), (2, .int q_), (3, .int i), (4, .int j), (5, .int n)]) hx hb dX7_copy_72 hl (by decide) rfl (fun ls hl => ?_)
                refine lv_iload hx hb dX7_copy_74 (lv_at hl 2 rfl) ?_
                refine lv_iconst (v := 2) hx hb dX7_copy_76 (by decide) ?_
                refine lv_icmp_eq (tgt := 91) hx hb dX7_copy_77 (by decide) (fun c_89 => ?_) (fun c_89 => ?_)
                · exact absurd c_89 (by decide)
                · refine lv_iload hx hb dX7_copy_80 (lv_at hl 1 rfl) ?_
                  refine lv_iconst (v := 2) hx hb dX7_copy_82 (by decide) ?_
                  refine lv_icmp_eq (tgt := 91) hx hb dX7_copy_83 (by decide) (fun c_90 => ?_) (fun c_90 => ?_)
                  · exact absurd c_90 (by decide)
                  · refine lv_iload hx hb dX7_copy_86 (lv_at hl 0 rfl) ?_
                    refine lv_if_eq (tgt := 97) hx hb dX7_copy_88 (by decide) (fun c_91 => ?_) (fun c_91 => ?_)
                    · refine lv_iload hx hb dX7_copy_97 (lv_at hl 2 rfl) ?_
                      refine lv_iconst (v := 3) hx hb dX7_copy_99 (by decide) ?_
                      refine lv_icmp_eq (tgt := 109) hx hb dX7_copy_100 (by decide) (fun c_92 => ?_) (fun c_92 => ?_)
                      · exact absurd c_92 (by decide)
                      · refine lv_iload hx hb dX7_copy_103 (lv_at hl 1 rfl) ?_
                        refine lv_iconst (v := 3) hx hb dX7_copy_105 (by decide) ?_
                        refine lv_icmp_ne (tgt := 115) hx hb dX7_copy_106 (by decide) (fun c_93 => ?_) (fun c_93 => ?_)
                        · refine lv_iload hx hb dX7_copy_115 (lv_at hl 10 rfl) ?_
                          refine lv_if_ge (tgt := 126) hx hb dX7_copy_117 (by decide) (fun c_94 => ?_) (fun c_94 => ?_)
                          · have fc_94 : 0 ≤ n.toInt := zf_le c_94 (by decide) rfl
                            refine lv_aload hx hb dX7_copy_126 (lv_at hl 4 rfl) ?_
                            refine lv_iload_n hx hb dX7_copy_128 rfl (lv_at hl 8 rfl) ?_
                            refine lv_iload hx hb dX7_copy_129 (lv_at hl 10 rfl) ?_
                            refine zc_V (As := [.int i, .int n]) (rest := []) ⟨hx, hb, hml, hown, hts⟩ (c_Sh_hasSpan l D cI cJ cZ cP cS po h0 e0 (he) (si) (i) (n) hy4 hy5 hy6 hy7) (cwV 2 hts gX7_copy_X4_hasSpan rfl rfl rfl ⟨rfl, dh_X4_hasSpan⟩ ⟨Nat.le_of_ble_eq_true rfl, Nat.le_of_ble_eq_true rfl⟩) hK hN (hZ.kept hS) hP (hP.sub [3] rfl) (va_recv (q := (RX4, TX4, 3)) hK hP (ci := 4) (q0 := 3) rfl rfl) rfl hl.1 rfl (Nat.le_of_ble_eq_true rfl) dX7_copy_131 ⟨Nat.le_of_ble_eq_true rfl, Nat.le_of_ble_eq_true rfl⟩ (fun r_95 hr_95 => ?_)
                            rcases hr_95 with ⟨rfl, g_96⟩ | ⟨rfl, g_97, g_98⟩ | ⟨rfl, g_99, g_100, g_101⟩ | ⟨rfl, g_102, g_103, g_104, g_105⟩ | ⟨rfl, g_106, g_107, g_108, g_109⟩
                            · refine lv_if_eq (tgt := 149) hx hb dX7_copy_134 (by decide) (fun c_110 => ?_) (fun c_110 => ?_)
                              · refine lv_aload_n hx hb dX7_copy_149 rfl (lv_at hl 5 rfl) ?_
                                refine lv_iconst (v := 5) hx hb dX7_copy_150 (by decide) ?_
                                skip
                                refine zw_V (As := [.int 5]) (rest := []) (wr := [(xs, .inl (cS, 8, .inr (.inr (.inr (.inr fh))))), (h0, .inr (4, [.ref e0, .int he, .int si])), (e0, .inl (cJ, 160, .inr (.inl fe)))]) ⟨hx, hb, hml, hown, hts⟩ (c_X_refuse_5 l D cI cJ cZ cP cS po x0 xs j0 k0 w0 rd mv xr (im) (lf) fr hy0 hy1 hy2 hy3 H.size) (cwV 1 hts gX7_copy_X7_refuse rfl rfl rfl ⟨rfl, dh_X7_refuse⟩ ⟨Nat.le_of_ble_eq_true rfl, Nat.le_of_ble_eq_true rfl⟩) hK hN (hZ.kept hS) hP hD hS hA [0, 1] [2, 3, 4] rfl rfl (by decide) (by decide) (by decide) (va_recv (q := (RX7, TX7, 9)) hK hP (ci := 7) (q0 := 0) rfl rfl) rfl hl.1 rfl (Nat.le_of_ble_eq_true rfl) dX7_copy_151 ⟨Nat.le_of_ble_eq_true rfl, Nat.le_of_ble_eq_true rfl⟩ (fun r_111 u_112 H locs hr_111 hP hD hS => ?_)
                                obtain ⟨q_113, rfl⟩ : ∃ z, z = u_112 := ⟨_, rfl⟩
                                have h9R := zRe (ws' := [(xs, .inl (cS, 8, .inr (.inr (.inr (.inr fh))))), (h0, .inr (4, [.ref e0, .int he, .int si])), (e0, .inl (cJ, 160, .inr (.inl fe))), (x0, .inr (7, [.ref xs, .ref j0, .ref k0, .ref w0, .ref rd, .ref mv, .ref xr, .int im, .int lf])), (xr, .inl (cI, 8, .inl q_113))]) hP hD rfl
                                clear hP hD
                                obtain ⟨hP, hD⟩ := h9R
                                obtain rfl := hr_111
                                exact W.iret (v := (-5)) hx hb hr (fun t ht hW => ⟨⟨(-5), (fe, q_113), rfl, ⟨(show ((-5) : Int32).toInt = zCopR s_.toInt q_.toInt he.toInt he.toInt si.toInt si.toInt i.toInt j.toInt n.toInt from by (have k9 : ((-5) : Int32).toInt = -5 := (by decide); unfold zCopR; (repeat (first | rw [if_pos (by omega)] | rw [if_neg (by omega)])) <;> omega)), (show (((-5) : Int32).toInt = 1 → fe = va_cpy fe fe i.toNatClampNeg j.toNatClampNeg n.toNatClampNeg) from by (have k9 : ((-5) : Int32).toInt = -5 := (by decide); intro h; exfalso; omega)), (show (((-5) : Int32).toInt ≠ 1 → fe = fe) from by (have k9 : ((-5) : Int32).toInt = -5 := (by decide); intro h; exact rfl)), trivial⟩, zRet ht hP hD [3, 4, 0, 1, 2] (by decide) rfl⟩, hS.F ht⟩) hS.2.2 dX7_copy_154
                              · exact absurd c_110 (by decide)
                            · exfalso; omega
                            · refine lv_if_eq (tgt := 149) hx hb dX7_copy_134 (by decide) (fun c_114 => ?_) (fun c_114 => ?_)
                              · refine lv_aload_n hx hb dX7_copy_149 rfl (lv_at hl 5 rfl) ?_
                                refine lv_iconst (v := 5) hx hb dX7_copy_150 (by decide) ?_
                                skip
                                refine zw_V (As := [.int 5]) (rest := []) (wr := [(xs, .inl (cS, 8, .inr (.inr (.inr (.inr fh))))), (h0, .inr (4, [.ref e0, .int he, .int si])), (e0, .inl (cJ, 160, .inr (.inl fe)))]) ⟨hx, hb, hml, hown, hts⟩ (c_X_refuse_5 l D cI cJ cZ cP cS po x0 xs j0 k0 w0 rd mv xr (im) (lf) fr hy0 hy1 hy2 hy3 H.size) (cwV 1 hts gX7_copy_X7_refuse rfl rfl rfl ⟨rfl, dh_X7_refuse⟩ ⟨Nat.le_of_ble_eq_true rfl, Nat.le_of_ble_eq_true rfl⟩) hK hN (hZ.kept hS) hP hD hS hA [0, 1] [2, 3, 4] rfl rfl (by decide) (by decide) (by decide) (va_recv (q := (RX7, TX7, 9)) hK hP (ci := 7) (q0 := 0) rfl rfl) rfl hl.1 rfl (Nat.le_of_ble_eq_true rfl) dX7_copy_151 ⟨Nat.le_of_ble_eq_true rfl, Nat.le_of_ble_eq_true rfl⟩ (fun r_115 u_116 H locs hr_115 hP hD hS => ?_)
                                obtain ⟨q_117, rfl⟩ : ∃ z, z = u_116 := ⟨_, rfl⟩
                                have h9R := zRe (ws' := [(xs, .inl (cS, 8, .inr (.inr (.inr (.inr fh))))), (h0, .inr (4, [.ref e0, .int he, .int si])), (e0, .inl (cJ, 160, .inr (.inl fe))), (x0, .inr (7, [.ref xs, .ref j0, .ref k0, .ref w0, .ref rd, .ref mv, .ref xr, .int im, .int lf])), (xr, .inl (cI, 8, .inl q_117))]) hP hD rfl
                                clear hP hD
                                obtain ⟨hP, hD⟩ := h9R
                                obtain rfl := hr_115
                                exact W.iret (v := (-5)) hx hb hr (fun t ht hW => ⟨⟨(-5), (fe, q_117), rfl, ⟨(show ((-5) : Int32).toInt = zCopR s_.toInt q_.toInt he.toInt he.toInt si.toInt si.toInt i.toInt j.toInt n.toInt from by (have k9 : ((-5) : Int32).toInt = -5 := (by decide); unfold zCopR; (repeat (first | rw [if_pos (by omega)] | rw [if_neg (by omega)])) <;> omega)), (show (((-5) : Int32).toInt = 1 → fe = va_cpy fe fe i.toNatClampNeg j.toNatClampNeg n.toNatClampNeg) from by (have k9 : ((-5) : Int32).toInt = -5 := (by decide); intro h; exfalso; omega)), (show (((-5) : Int32).toInt ≠ 1 → fe = fe) from by (have k9 : ((-5) : Int32).toInt = -5 := (by decide); intro h; exact rfl)), trivial⟩, zRet ht hP hD [3, 4, 0, 1, 2] (by decide) rfl⟩, hS.F ht⟩) hS.2.2 dX7_copy_154
                              · exact absurd c_114 (by decide)
                            · refine lv_if_eq (tgt := 149) hx hb dX7_copy_134 (by decide) (fun c_118 => ?_) (fun c_118 => ?_)
                              · refine lv_aload_n hx hb dX7_copy_149 rfl (lv_at hl 5 rfl) ?_
                                refine lv_iconst (v := 5) hx hb dX7_copy_150 (by decide) ?_
                                skip
                                refine zw_V (As := [.int 5]) (rest := []) (wr := [(xs, .inl (cS, 8, .inr (.inr (.inr (.inr fh))))), (h0, .inr (4, [.ref e0, .int he, .int si])), (e0, .inl (cJ, 160, .inr (.inl fe)))]) ⟨hx, hb, hml, hown, hts⟩ (c_X_refuse_5 l D cI cJ cZ cP cS po x0 xs j0 k0 w0 rd mv xr (im) (lf) fr hy0 hy1 hy2 hy3 H.size) (cwV 1 hts gX7_copy_X7_refuse rfl rfl rfl ⟨rfl, dh_X7_refuse⟩ ⟨Nat.le_of_ble_eq_true rfl, Nat.le_of_ble_eq_true rfl⟩) hK hN (hZ.kept hS) hP hD hS hA [0, 1] [2, 3, 4] rfl rfl (by decide) (by decide) (by decide) (va_recv (q := (RX7, TX7, 9)) hK hP (ci := 7) (q0 := 0) rfl rfl) rfl hl.1 rfl (Nat.le_of_ble_eq_true rfl) dX7_copy_151 ⟨Nat.le_of_ble_eq_true rfl, Nat.le_of_ble_eq_true rfl⟩ (fun r_119 u_120 H locs hr_119 hP hD hS => ?_)
                                obtain ⟨q_121, rfl⟩ : ∃ z, z = u_120 := ⟨_, rfl⟩
                                have h9R := zRe (ws' := [(xs, .inl (cS, 8, .inr (.inr (.inr (.inr fh))))), (h0, .inr (4, [.ref e0, .int he, .int si])), (e0, .inl (cJ, 160, .inr (.inl fe))), (x0, .inr (7, [.ref xs, .ref j0, .ref k0, .ref w0, .ref rd, .ref mv, .ref xr, .int im, .int lf])), (xr, .inl (cI, 8, .inl q_121))]) hP hD rfl
                                clear hP hD
                                obtain ⟨hP, hD⟩ := h9R
                                obtain rfl := hr_119
                                exact W.iret (v := (-5)) hx hb hr (fun t ht hW => ⟨⟨(-5), (fe, q_121), rfl, ⟨(show ((-5) : Int32).toInt = zCopR s_.toInt q_.toInt he.toInt he.toInt si.toInt si.toInt i.toInt j.toInt n.toInt from by (have k9 : ((-5) : Int32).toInt = -5 := (by decide); unfold zCopR; (repeat (first | rw [if_pos (by omega)] | rw [if_neg (by omega)])) <;> omega)), (show (((-5) : Int32).toInt = 1 → fe = va_cpy fe fe i.toNatClampNeg j.toNatClampNeg n.toNatClampNeg) from by (have k9 : ((-5) : Int32).toInt = -5 := (by decide); intro h; exfalso; omega)), (show (((-5) : Int32).toInt ≠ 1 → fe = fe) from by (have k9 : ((-5) : Int32).toInt = -5 := (by decide); intro h; exact rfl)), trivial⟩, zRet ht hP hD [3, 4, 0, 1, 2] (by decide) rfl⟩, hS.F ht⟩) hS.2.2 dX7_copy_154
                              · exact absurd c_118 (by decide)
                            · refine lv_if_eq (tgt := 149) hx hb dX7_copy_134 (by decide) (fun c_122 => ?_) (fun c_122 => ?_)
                              · exact absurd c_122 (by decide)
                              · refine lv_aload hx hb dX7_copy_137 (lv_at hl 3 rfl) ?_
                                refine lv_iload hx hb dX7_copy_139 (lv_at hl 9 rfl) ?_
                                refine lv_iload hx hb dX7_copy_141 (lv_at hl 10 rfl) ?_
                                refine zc_V (As := [.int j, .int n]) (rest := []) ⟨hx, hb, hml, hown, hts⟩ (c_Sh_hasSpan l D cI cJ cZ cP cS po h0 e0 (he) (si) (j) (n) hy4 hy5 hy6 hy7) (cwV 2 hts gX7_copy_X4_hasSpan rfl rfl rfl ⟨rfl, dh_X4_hasSpan⟩ ⟨Nat.le_of_ble_eq_true rfl, Nat.le_of_ble_eq_true rfl⟩) hK hN (hZ.kept hS) hP (hP.sub [3] rfl) (va_recv (q := (RX4, TX4, 3)) hK hP (ci := 4) (q0 := 3) rfl rfl) rfl hl.1 rfl (Nat.le_of_ble_eq_true rfl) dX7_copy_143 ⟨Nat.le_of_ble_eq_true rfl, Nat.le_of_ble_eq_true rfl⟩ (fun r_123 hr_123 => ?_)
                                rcases hr_123 with ⟨rfl, g_124⟩ | ⟨rfl, g_125, g_126⟩ | ⟨rfl, g_127, g_128, g_129⟩ | ⟨rfl, g_130, g_131, g_132, g_133⟩ | ⟨rfl, g_134, g_135, g_136, g_137⟩
                                · refine lv_if_ne (tgt := 155) hx hb dX7_copy_146 (by decide) (fun c_138 => ?_) (fun c_138 => ?_)
                                  · exact absurd c_138 (by decide)
                                  · refine lv_aload_n hx hb dX7_copy_149 rfl (lv_at hl 5 rfl) ?_
                                    refine lv_iconst (v := 5) hx hb dX7_copy_150 (by decide) ?_
                                    skip
                                    refine zw_V (As := [.int 5]) (rest := []) (wr := [(xs, .inl (cS, 8, .inr (.inr (.inr (.inr fh))))), (h0, .inr (4, [.ref e0, .int he, .int si])), (e0, .inl (cJ, 160, .inr (.inl fe)))]) ⟨hx, hb, hml, hown, hts⟩ (c_X_refuse_5 l D cI cJ cZ cP cS po x0 xs j0 k0 w0 rd mv xr (im) (lf) fr hy0 hy1 hy2 hy3 H.size) (cwV 1 hts gX7_copy_X7_refuse rfl rfl rfl ⟨rfl, dh_X7_refuse⟩ ⟨Nat.le_of_ble_eq_true rfl, Nat.le_of_ble_eq_true rfl⟩) hK hN (hZ.kept hS) hP hD hS hA [0, 1] [2, 3, 4] rfl rfl (by decide) (by decide) (by decide) (va_recv (q := (RX7, TX7, 9)) hK hP (ci := 7) (q0 := 0) rfl rfl) rfl hl.1 rfl (Nat.le_of_ble_eq_true rfl) dX7_copy_151 ⟨Nat.le_of_ble_eq_true rfl, Nat.le_of_ble_eq_true rfl⟩ (fun r_139 u_140 H locs hr_139 hP hD hS => ?_)
                                    obtain ⟨q_141, rfl⟩ : ∃ z, z = u_140 := ⟨_, rfl⟩
                                    have h9R := zRe (ws' := [(xs, .inl (cS, 8, .inr (.inr (.inr (.inr fh))))), (h0, .inr (4, [.ref e0, .int he, .int si])), (e0, .inl (cJ, 160, .inr (.inl fe))), (x0, .inr (7, [.ref xs, .ref j0, .ref k0, .ref w0, .ref rd, .ref mv, .ref xr, .int im, .int lf])), (xr, .inl (cI, 8, .inl q_141))]) hP hD rfl
                                    clear hP hD
                                    obtain ⟨hP, hD⟩ := h9R
                                    obtain rfl := hr_139
                                    exact W.iret (v := (-5)) hx hb hr (fun t ht hW => ⟨⟨(-5), (fe, q_141), rfl, ⟨(show ((-5) : Int32).toInt = zCopR s_.toInt q_.toInt he.toInt he.toInt si.toInt si.toInt i.toInt j.toInt n.toInt from by (have k9 : ((-5) : Int32).toInt = -5 := (by decide); unfold zCopR; (repeat (first | rw [if_pos (by omega)] | rw [if_neg (by omega)])) <;> omega)), (show (((-5) : Int32).toInt = 1 → fe = va_cpy fe fe i.toNatClampNeg j.toNatClampNeg n.toNatClampNeg) from by (have k9 : ((-5) : Int32).toInt = -5 := (by decide); intro h; exfalso; omega)), (show (((-5) : Int32).toInt ≠ 1 → fe = fe) from by (have k9 : ((-5) : Int32).toInt = -5 := (by decide); intro h; exact rfl)), trivial⟩, zRet ht hP hD [3, 4, 0, 1, 2] (by decide) rfl⟩, hS.F ht⟩) hS.2.2 dX7_copy_154
                                · exfalso; omega
                                · exfalso; omega
                                · refine lv_if_ne (tgt := 155) hx hb dX7_copy_146 (by decide) (fun c_142 => ?_) (fun c_142 => ?_)
                                  · exact absurd c_142 (by decide)
                                  · refine lv_aload_n hx hb dX7_copy_149 rfl (lv_at hl 5 rfl) ?_
                                    refine lv_iconst (v := 5) hx hb dX7_copy_150 (by decide) ?_
                                    skip
                                    refine zw_V (As := [.int 5]) (rest := []) (wr := [(xs, .inl (cS, 8, .inr (.inr (.inr (.inr fh))))), (h0, .inr (4, [.ref e0, .int he, .int si])), (e0, .inl (cJ, 160, .inr (.inl fe)))]) ⟨hx, hb, hml, hown, hts⟩ (c_X_refuse_5 l D cI cJ cZ cP cS po x0 xs j0 k0 w0 rd mv xr (im) (lf) fr hy0 hy1 hy2 hy3 H.size) (cwV 1 hts gX7_copy_X7_refuse rfl rfl rfl ⟨rfl, dh_X7_refuse⟩ ⟨Nat.le_of_ble_eq_true rfl, Nat.le_of_ble_eq_true rfl⟩) hK hN (hZ.kept hS) hP hD hS hA [0, 1] [2, 3, 4] rfl rfl (by decide) (by decide) (by decide) (va_recv (q := (RX7, TX7, 9)) hK hP (ci := 7) (q0 := 0) rfl rfl) rfl hl.1 rfl (Nat.le_of_ble_eq_true rfl) dX7_copy_151 ⟨Nat.le_of_ble_eq_true rfl, Nat.le_of_ble_eq_true rfl⟩ (fun r_143 u_144 H locs hr_143 hP hD hS => ?_)
                                    obtain ⟨q_145, rfl⟩ : ∃ z, z = u_144 := ⟨_, rfl⟩
                                    have h9R := zRe (ws' := [(xs, .inl (cS, 8, .inr (.inr (.inr (.inr fh))))), (h0, .inr (4, [.ref e0, .int he, .int si])), (e0, .inl (cJ, 160, .inr (.inl fe))), (x0, .inr (7, [.ref xs, .ref j0, .ref k0, .ref w0, .ref rd, .ref mv, .ref xr, .int im, .int lf])), (xr, .inl (cI, 8, .inl q_145))]) hP hD rfl
                                    clear hP hD
                                    obtain ⟨hP, hD⟩ := h9R
                                    obtain rfl := hr_143
                                    exact W.iret (v := (-5)) hx hb hr (fun t ht hW => ⟨⟨(-5), (fe, q_145), rfl, ⟨(show ((-5) : Int32).toInt = zCopR s_.toInt q_.toInt he.toInt he.toInt si.toInt si.toInt i.toInt j.toInt n.toInt from by (have k9 : ((-5) : Int32).toInt = -5 := (by decide); unfold zCopR; (repeat (first | rw [if_pos (by omega)] | rw [if_neg (by omega)])) <;> omega)), (show (((-5) : Int32).toInt = 1 → fe = va_cpy fe fe i.toNatClampNeg j.toNatClampNeg n.toNatClampNeg) from by (have k9 : ((-5) : Int32).toInt = -5 := (by decide); intro h; exfalso; omega)), (show (((-5) : Int32).toInt ≠ 1 → fe = fe) from by (have k9 : ((-5) : Int32).toInt = -5 := (by decide); intro h; exact rfl)), trivial⟩, zRet ht hP hD [3, 4, 0, 1, 2] (by decide) rfl⟩, hS.F ht⟩) hS.2.2 dX7_copy_154
                                · refine lv_if_ne (tgt := 155) hx hb dX7_copy_146 (by decide) (fun c_146 => ?_) (fun c_146 => ?_)
                                  · refine lv_aload hx hb dX7_copy_155 (lv_at hl 4 rfl) ?_
                                    refine va_get (D := D) (ci := 4) (v := .ref e0) (C := RX4) (T := TX4) (N := 3) hx hb hts hi_X7_copy_4 hown hK hP 3 rfl rfl 0 (by decide) (hts (.fieldLink RX7 90 "TheLiningsInIt$Shelf" "elements" "[J") (List.mem_of_getElem? (i := 2) rfl)) (fun _ h9 => h9) rfl dX7_copy_157 ?_
                                    refine lv_iload_n hx hb dX7_copy_160 rfl (lv_at hl 8 rfl) ?_
                                    refine lv_aload hx hb dX7_copy_161 (lv_at hl 3 rfl) ?_
                                    refine va_get (D := D) (ci := 4) (v := .ref e0) (C := RX4) (T := TX4) (N := 3) hx hb hts hi_X7_copy_4 hown hK hP 3 rfl rfl 0 (by decide) (hts (.fieldLink RX7 90 "TheLiningsInIt$Shelf" "elements" "[J") (List.mem_of_getElem? (i := 2) rfl)) (fun _ h9 => h9) rfl dX7_copy_163 ?_
                                    refine lv_iload hx hb dX7_copy_166 (lv_at hl 9 rfl) ?_
                                    refine lv_iload hx hb dX7_copy_168 (lv_at hl 10 rfl) ?_
                                    refine va_copyl hx hb (hml.trans hl.1.symm) hown (hts (.methodLink RX7 94 arraycopyName) (List.mem_of_getElem? (i := 3) rfl)) (hts _ (List.mem_of_getElem? (i := 4) rfl)) (hts _ (List.mem_of_getElem? (i := 5) rfl)) (hts _ (List.mem_of_getElem? (i := 6) rfl)) hK hP hD hS 4 4 1 1 rfl rfl rfl rfl rfl (fun h => by have h9 := zf_lt h rfl (show (0 : Int32).toInt = 0 from by decide); omega) (fun h => by have h9 := zf_lt h rfl (show (0 : Int32).toInt = 0 from by decide); omega) (fun h => by have h9 := zf_lt h rfl (show (0 : Int32).toInt = 0 from by decide); omega) (by (show (i : Int32).toInt.toNat + (n : Int32).toInt.toNat ≤ 160; omega)) (by (show (j : Int32).toInt.toNat + (n : Int32).toInt.toNat ≤ 160; omega)) (fun _ _ => rfl) (Nat.le_of_ble_eq_true rfl) (by decide) dX7_copy_170 (fun H locs hP hD hS => ?_)
                                    obtain ⟨g_147, hg_147⟩ : ∃ g : Nat → Int64, g = va_cpy fe fe i.toNatClampNeg j.toNatClampNeg n.toNatClampNeg := ⟨_, rfl⟩
                                    rw [← hg_147] at hP hD
                                    have h9R := zRe (ws' := [(x0, .inr (7, [.ref xs, .ref j0, .ref k0, .ref w0, .ref rd, .ref mv, .ref xr, .int im, .int lf])), (xr, .inl (cI, 8, .inl fr)), (xs, .inl (cS, 8, .inr (.inr (.inr (.inr fh))))), (h0, .inr (4, [.ref e0, .int he, .int si])), (e0, .inl (cJ, 160, .inr (.inl g_147)))]) hP hD rfl
                                    clear hP hD
                                    obtain ⟨hP, hD⟩ := h9R
                                    refine lv_iconst (v := 1) hx hb dX7_copy_173 (by decide) ?_
                                    exact W.iret (v := 1) hx hb hr (fun t ht hW => ⟨⟨1, (g_147, fr), rfl, ⟨(show (1 : Int32).toInt = zCopR s_.toInt q_.toInt he.toInt he.toInt si.toInt si.toInt i.toInt j.toInt n.toInt from by (have k9 : (1 : Int32).toInt = 1 := (by decide); unfold zCopR; (repeat (first | rw [if_pos (by omega)] | rw [if_neg (by omega)])) <;> omega)), (show ((1 : Int32).toInt = 1 → g_147 = va_cpy fe fe i.toNatClampNeg j.toNatClampNeg n.toNatClampNeg) from by (have k9 : (1 : Int32).toInt = 1 := (by decide); intro h; exact (by rw [hg_147]))), (show ((1 : Int32).toInt ≠ 1 → g_147 = fe) from by (have k9 : (1 : Int32).toInt = 1 := (by decide); intro h; exfalso; omega)), trivial⟩, zRet ht hP hD [0, 1, 2, 3, 4] (by decide) rfl⟩, hS.F ht⟩) hS.2.2 dX7_copy_174
                                  · exact absurd c_146 (by decide)
                          · have fc_94 : n.toInt < 0 := zf_nle c_94 (by decide) rfl
                            refine lv_aload_n hx hb dX7_copy_120 rfl (lv_at hl 5 rfl) ?_
                            refine lv_iconst (v := 4) hx hb dX7_copy_121 (by decide) ?_
                            skip
                            refine zw_V (As := [.int 4]) (rest := []) (wr := [(xs, .inl (cS, 8, .inr (.inr (.inr (.inr fh))))), (h0, .inr (4, [.ref e0, .int he, .int si])), (e0, .inl (cJ, 160, .inr (.inl fe)))]) ⟨hx, hb, hml, hown, hts⟩ (c_X_refuse_4 l D cI cJ cZ cP cS po x0 xs j0 k0 w0 rd mv xr (im) (lf) fr hy0 hy1 hy2 hy3 H.size) (cwV 1 hts gX7_copy_X7_refuse rfl rfl rfl ⟨rfl, dh_X7_refuse⟩ ⟨Nat.le_of_ble_eq_true rfl, Nat.le_of_ble_eq_true rfl⟩) hK hN (hZ.kept hS) hP hD hS hA [0, 1] [2, 3, 4] rfl rfl (by decide) (by decide) (by decide) (va_recv (q := (RX7, TX7, 9)) hK hP (ci := 7) (q0 := 0) rfl rfl) rfl hl.1 rfl (Nat.le_of_ble_eq_true rfl) dX7_copy_122 ⟨Nat.le_of_ble_eq_true rfl, Nat.le_of_ble_eq_true rfl⟩ (fun r_148 u_149 H locs hr_148 hP hD hS => ?_)
                            obtain ⟨q_150, rfl⟩ : ∃ z, z = u_149 := ⟨_, rfl⟩
                            have h9R := zRe (ws' := [(xs, .inl (cS, 8, .inr (.inr (.inr (.inr fh))))), (h0, .inr (4, [.ref e0, .int he, .int si])), (e0, .inl (cJ, 160, .inr (.inl fe))), (x0, .inr (7, [.ref xs, .ref j0, .ref k0, .ref w0, .ref rd, .ref mv, .ref xr, .int im, .int lf])), (xr, .inl (cI, 8, .inl q_150))]) hP hD rfl
                            clear hP hD
                            obtain ⟨hP, hD⟩ := h9R
                            obtain rfl := hr_148
                            exact W.iret (v := (-4)) hx hb hr (fun t ht hW => ⟨⟨(-4), (fe, q_150), rfl, ⟨(show ((-4) : Int32).toInt = zCopR s_.toInt q_.toInt he.toInt he.toInt si.toInt si.toInt i.toInt j.toInt n.toInt from by (have k9 : ((-4) : Int32).toInt = -4 := (by decide); unfold zCopR; (repeat (first | rw [if_pos (by omega)] | rw [if_neg (by omega)])) <;> omega)), (show (((-4) : Int32).toInt = 1 → fe = va_cpy fe fe i.toNatClampNeg j.toNatClampNeg n.toNatClampNeg) from by (have k9 : ((-4) : Int32).toInt = -4 := (by decide); intro h; exfalso; omega)), (show (((-4) : Int32).toInt ≠ 1 → fe = fe) from by (have k9 : ((-4) : Int32).toInt = -4 := (by decide); intro h; exact rfl)), trivial⟩, zRet ht hP hD [3, 4, 0, 1, 2] (by decide) rfl⟩, hS.F ht⟩) hS.2.2 dX7_copy_125
                        · exact absurd c_93 (by decide)
                    · exact absurd c_91 (by decide)
              · exfalso; have fc_88 : he.toInt ≠ he.toInt := zf_ne c_88 rfl rfl; omega

