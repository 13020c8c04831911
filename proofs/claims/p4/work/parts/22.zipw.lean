theorem hi_X6_takeSlack_6 : ∀ w ∈ u_ws RX6 TX6 5, w ∈ wsX6_takeSlack := fun w h => (goodIn_r (u_ws RX6 TX6 5) [8, 9, 10, 11, 12] rfl (by decide +kernel) w h).1
set_option maxHeartbeats 4000000 in
set_option maxRecDepth 100000 in
theorem c_Zip_takeSlack (l : Launch) (D : va_G) (cI cJ cZ cP cS : ClassId) (po : zPool) (z0 zl zs : Nat) (sz at_ gp : Int32) (fl fs : Nat → Int32) (md : Int32) (hy0 : 4 ≤ sz.toInt) (hy1 : sz.toInt ≤ 40) (hy2 : 0 ≤ at_.toInt) (hy3 : at_.toInt ≤ 40) (hy4 : 1 ≤ gp.toInt) (hy5 : gp.toInt ≤ 9) (hy6 : 0 ≤ md.toInt) (hy7 : md.toInt ≤ 39) (hp_fs : zRg fs (0) 9) (hpz : Nat) : Met l yX6_takeSlack wsX6_takeSlack ({ frames := 1, cells := 0, slots := 0, locals := 21 }) (va_Pc [.ref z0, .int md] (zW D (zKT cI cJ cZ cP cS) po [(z0, .inr (6, [.ref zl, .ref zs, .int sz, .int at_, .int gp])), (zs, .inl (cI, 40, .inl fs))] hpz)) (va_Qi (fun (r : Int32) (fs2 : (Nat → Int32)) => zRg fs2 (0) 9 ∧ (True)) (zB D [(z0, .inr (6, [.ref zl, .ref zs, .int sz, .int at_, .int gp])), (zs, .inl (cI, 40, .inl fs))] hpz (fun (fs2 : Nat → Int32) => [(z0, .inr (6, [.ref zl, .ref zs, .int sz, .int at_, .int gp])), (zs, .inl (cI, 40, .inl fs2))])) (va_A [(z0, .inr (6, [.ref zl, .ref zs, .int sz, .int at_, .int gp])), (zs, .inl (cI, 40, .inl fs))] hpz)) 0 0 (va_A [(z0, .inr (6, [.ref zl, .ref zs, .int sz, .int at_, .int gp])), (zs, .inl (cI, 40, .inl fs))] hpz) := by
  refine Met.ofW (cc := cX6_takeSlack) (maxL := 4) (ret := (some .int)) (by decide) rfl ?_
  intro p e s m args below meth c s₁ B hml hv
  obtain ⟨rfl, hsz, hP, hK, hD0, hN, hZ⟩ := hv
  have hx := B.exec
  have hb := B.bytes
  have hr := B.returns
  have hts := atoms_spec (ws := wsX6_takeSlack) B.pre
  have hown : s.vm.findClass RX6 = some m.cls := findClass_of_methodNamed B.named
  have hlocks := B.notSynchronized
  subst hsz
  have hD := hD0.self (sz := s.heap.size)
  have hA : ∀ q : Nat, s.heap.size ≤ q → va_A [(z0, .inr (6, [.ref zl, .ref zs, .int sz, .int at_, .int gp])), (zs, .inl (cI, 40, .inl fs))] s.heap.size q := fun q h => Or.inr h
  have hS : va_S (va_A [(z0, .inr (6, [.ref zl, .ref zs, .int sz, .int at_, .int gp])), (zs, .inl (cI, 40, .inl fs))] s.heap.size) s.heap s.heap [] := va_S.rf
  replace hP : va_P D vwCl _ s.heap := hP
  have hl := lv_entry ([.ref z0, .int md]) (n := 4) (Nat.le_of_ble_eq_true rfl)
  rw [lg_entry_eq]
  generalize (lg_sl ([.ref z0, .int md]) ++ List.replicate (4 - (lg_sl ([.ref z0, .int md])).length) Slot.unset).toArray = ls at hl ⊢
  replace hl : lv_has ls 4 [(0, .ref z0), (1, .int md)] := hl
  refine zw_start (fun H locs hH hL => ?_)
  replace hP : va_P D vwCl [(z0, .inr (6, [.ref zl, .ref zs, .int sz, .int at_, .int gp])), (zs, .inl (cI, 40, .inl fs))] H := by rw [hH]; exact hP
  replace hS : va_S (va_A [(z0, .inr (6, [.ref zl, .ref zs, .int sz, .int at_, .int gp])), (zs, .inl (cI, 40, .inl fs))] s.heap.size) s.heap H locs := by rw [hH, hL]; exact hS
  clear hH hL
  refine lv_iconst (v := 0) hx hb dX6_takeSlack_0 (by decide) ?_
  refine lv_istore_n (lv' := [(2, .int 0), (0, .ref z0), (1, .int md)]) hx hb dX6_takeSlack_1 rfl hl (by decide) rfl (fun ls hl => ?_)
  refine lv_iload_n hx hb dX6_takeSlack_2 rfl (lv_at hl 2 rfl) ?_
  refine lv_iconst (v := 2) hx hb dX6_takeSlack_3 (by decide) ?_
  refine lv_isub hx hb dX6_takeSlack_4 ?_
  refine lv_topi (fun x_1 ex_1 => ?_)
  have qx_1 : x_1.toInt = md.toInt - 2 := by rw [ex_1]; exact zf_sub rfl (by decide) (by omega) (by omega)
  refine lv_istore_n (lv' := [(3, .int x_1), (2, .int 0), (0, .ref z0), (1, .int md)]) hx hb dX6_takeSlack_5 rfl hl (by decide) rfl (fun ls hl => ?_)
  obtain ⟨i_6, hi_6⟩ : ∃ i : Int32, i = x_1 := ⟨_, rfl⟩
  replace hl : lv_has ls 4 [(3, .int i_6), (2, .int 0), (0, .ref z0), (1, .int md)] := by rw [hi_6]; exact lv_sub hl [0, 1, 2, 3] rfl
  have h1i_6 : i_6.toInt = x_1.toInt := by rw [hi_6]
  obtain ⟨nfu, hni_6⟩ : ∃ nq9 : Nat, md.toInt + 3 ≤ i_6.toInt + (nq9 : Int) := ⟨((md.toInt + 3 : Int) - x_1.toInt).toNat, by omega⟩
  have hloi_6 : -2 ≤ i_6.toInt := by omega
  obtain ⟨g_2, hg_2⟩ : ∃ g : Nat → Int32, g = fs := ⟨_, rfl⟩
  have hpg_2 : zRg g_2 (0) 9 := by rw [hg_2]; exact hp_fs
  replace hP : va_P D vwCl [(z0, .inr (6, [.ref zl, .ref zs, .int sz, .int at_, .int gp])), (zs, .inl (cI, 40, .inl g_2))] H := by rw [hg_2]; exact hP
  replace hD : va_D (va_A [(z0, .inr (6, [.ref zl, .ref zs, .int sz, .int at_, .int gp])), (zs, .inl (cI, 40, .inl fs))] s.heap.size) [(z0, .inr (6, [.ref zl, .ref zs, .int sz, .int at_, .int gp])), (zs, .inl (cI, 40, .inl g_2))] := by rw [hg_2]; exact hD
  obtain ⟨v_3, hv_3⟩ : ∃ g : Int32, g = 0 := ⟨_, rfl⟩
  replace hl : lv_has ls 4 [(3, .int i_6), (2, .int v_3), (0, .ref z0), (1, .int md)] := by rw [hv_3]; exact hl
  clear h1i_6 hi_6 hg_2 hv_3
  skip
  revert hni_6
  revert hloi_6
  revert hpg_2
  revert hl
  revert hS
  revert hD
  revert hP
  revert ls
  revert locs
  revert H
  revert g_2
  revert v_3
  revert i_6
  induction nfu with
  | zero =>
    intro i_6 v_3 g_2 H locs ls hP hD hS hl hpg_2 hloi_6 hni_6
    have hzi_6 : md.toInt + 3 ≤ i_6.toInt := by omega
    refine lv_iload_n hx hb dX6_takeSlack_6 rfl (lv_at hl 0 rfl) ?_
    refine lv_iload_n hx hb dX6_takeSlack_7 rfl (lv_at hl 3 rfl) ?_
    refine lv_iconst (v := 2) hx hb dX6_takeSlack_8 (by decide) ?_
    refine lv_iadd hx hb dX6_takeSlack_9 ?_
    refine lv_topi (fun x_4 ex_4 => ?_)
    have qx_4 : x_4.toInt = md.toInt + 2 := by rw [ex_4]; exact zf_add rfl (by decide) (by omega) (by omega)
    refine lv_icmp_gt (tgt := 43) hx hb dX6_takeSlack_10 (by decide) (fun c_5 => ?_) (fun c_5 => ?_)
    · have fc_5 : x_4.toInt < i_6.toInt := zf_lt c_5 rfl rfl
      refine lv_iload_n hx hb dX6_takeSlack_43 rfl (lv_at hl 1 rfl) ?_
      exact W.iret (v := v_3) hx hb hr (fun t ht hW => ⟨⟨v_3, g_2, rfl, ⟨hpg_2, trivial⟩, by rw [ht]; exact hP.sub (ws' := [(z0, .inr (6, [.ref zl, .ref zs, .int sz, .int at_, .int gp])), (zs, .inl (cI, 40, .inl g_2))]) [0, 1] rfl, hD.sub (ws' := [(z0, .inr (6, [.ref zl, .ref zs, .int sz, .int at_, .int gp])), (zs, .inl (cI, 40, .inl g_2))]) [0, 1] (by decide) rfl⟩, hS.F ht⟩) hS.2.2 dX6_takeSlack_44
    · have fc_5 : i_6.toInt ≤ x_4.toInt := zf_nlt c_5 rfl rfl
      refine lv_aload_n hx hb dX6_takeSlack_13 rfl (lv_at hl 2 rfl) ?_
      refine lv_iload_n hx hb dX6_takeSlack_14 rfl (lv_at hl 0 rfl) ?_
      refine zc_V (As := [.int i_6]) (rest := []) ⟨hx, hb, hml, hown, hts⟩ (c_Zip_has l D cI cJ cZ cP cS po z0 zl zs (sz) (at_) (gp) (i_6) ) (cwV 1 hts gX6_takeSlack_X6_has rfl rfl rfl (by decide +kernel) ⟨Nat.le_of_ble_eq_true rfl, Nat.le_of_ble_eq_true rfl⟩) hK hN (hZ.kept hS) hP (hP.sub [0] rfl) (va_recv hK hP (ci := 6) (q0 := 0) rfl rfl) rfl hl.1 rfl (Nat.le_of_ble_eq_true rfl) dX6_takeSlack_15 ⟨Nat.le_of_ble_eq_true rfl, Nat.le_of_ble_eq_true rfl⟩ (fun r_6 hr_6 => ?_)
      rcases hr_6 with ⟨rfl, g_7⟩ | ⟨rfl, g_8, g_9⟩ | ⟨rfl, g_10, g_11⟩
      · refine lv_if_eq (tgt := 37) hx hb dX6_takeSlack_18 (by decide) (fun c_12 => ?_) (fun c_12 => ?_)
        · obtain ⟨x_13, ex_13⟩ : ∃ y : Int32, y = i_6 + 1 := ⟨_, rfl⟩
          have rax_13 := zf_rng i_6
          have qx_13 : x_13.toInt = i_6.toInt + 1 := by rw [ex_13]; exact zf_add rfl (by decide) (by omega) (by omega)
          refine lv_iinc (v := x_13) (lv' := [(3, .int x_13), (2, .int v_3), (0, .ref z0), (1, .int md)]) hx hb dX6_takeSlack_37 hl (k := 0) rfl ex_13.symm (by decide) rfl (fun ls hl => ?_)
          refine lv_goto (tgt := 6) hx hb dX6_takeSlack_40 (by decide) ?_
          exfalso; omega
        · exact absurd c_12 (by decide)
      · refine lv_if_eq (tgt := 37) hx hb dX6_takeSlack_18 (by decide) (fun c_14 => ?_) (fun c_14 => ?_)
        · obtain ⟨x_15, ex_15⟩ : ∃ y : Int32, y = i_6 + 1 := ⟨_, rfl⟩
          have qx_15 : x_15.toInt = i_6.toInt + 1 := by rw [ex_15]; exact zf_add rfl (by decide) (by omega) (by omega)
          refine lv_iinc (v := x_15) (lv' := [(3, .int x_15), (2, .int v_3), (0, .ref z0), (1, .int md)]) hx hb dX6_takeSlack_37 hl (k := 0) rfl ex_15.symm (by decide) rfl (fun ls hl => ?_)
          refine lv_goto (tgt := 6) hx hb dX6_takeSlack_40 (by decide) ?_
          exfalso; omega
        · exact absurd c_14 (by decide)
      · refine lv_if_eq (tgt := 37) hx hb dX6_takeSlack_18 (by decide) (fun c_16 => ?_) (fun c_16 => ?_)
        · exact absurd c_16 (by decide)
        · refine lv_iload_n hx hb dX6_takeSlack_21 rfl (lv_at hl 1 rfl) ?_
          refine lv_aload_n hx hb dX6_takeSlack_22 rfl (lv_at hl 2 rfl) ?_
          refine va_get (D := D) (ci := 6) (v := .ref zs) (C := RX6) (T := TX6) (N := 5) hx hb hts hi_X6_takeSlack_6 hown hK hP 0 rfl rfl 1 (by decide) (hts (.fieldLink RX6 15 "TheLiningsInIt$Zip" "slacks" "[I") (List.mem_of_getElem? (i := 1) rfl)) (fun _ h9 => h9) rfl dX6_takeSlack_23 ?_
          refine lv_iload_n hx hb dX6_takeSlack_26 rfl (lv_at hl 0 rfl) ?_
          refine va_iald hx hb hK hP 1 0 rfl rfl (zf_in (by omega) (by omega)) dX6_takeSlack_27 ?_
          refine lv_topi (fun x_17 ex_17 => ?_)
          have bx_17 : 0 ≤ x_17.toInt ∧ x_17.toInt ≤ 9 := by rw [ex_17]; exact hpg_2 _
          refine lv_iadd hx hb dX6_takeSlack_28 ?_
          refine lv_topi (fun x_18 ex_18 => ?_)
          refine lv_istore_n (lv' := [(2, .int x_18), (3, .int i_6), (0, .ref z0), (1, .int md)]) hx hb dX6_takeSlack_29 rfl hl (by decide) rfl (fun ls hl => ?_)
          refine lv_aload_n hx hb dX6_takeSlack_30 rfl (lv_at hl 2 rfl) ?_
          refine va_get (D := D) (ci := 6) (v := .ref zs) (C := RX6) (T := TX6) (N := 5) hx hb hts hi_X6_takeSlack_6 hown hK hP 0 rfl rfl 1 (by decide) (hts (.fieldLink RX6 15 "TheLiningsInIt$Zip" "slacks" "[I") (List.mem_of_getElem? (i := 1) rfl)) (fun _ h9 => h9) rfl dX6_takeSlack_31 ?_
          refine lv_iload_n hx hb dX6_takeSlack_34 rfl (lv_at hl 1 rfl) ?_
          refine lv_iconst (v := 0) hx hb dX6_takeSlack_35 (by decide) ?_
          refine va_iast hx hb hK hP hD hS 1 0 rfl rfl (zf_in (by omega) (by omega)) dX6_takeSlack_36 (fun H locs hP hD hS => ?_)
          have hpg_19 : zRg (upd g_2 i_6.toNatClampNeg 0) (0) 9 := zRg_upd hpg_2 (by decide) (by decide)
          obtain ⟨g_19, hg_19⟩ : ∃ g : Nat → Int32, g = upd g_2 i_6.toNatClampNeg 0 := ⟨_, rfl⟩
          rw [← hg_19] at hP hD hpg_19
          clear hg_19
          replace hP : va_P D vwCl [(z0, .inr (6, [.ref zl, .ref zs, .int sz, .int at_, .int gp])), (zs, .inl (cI, 40, .inl g_19))] H := hP
          replace hD : va_D _ [(z0, .inr (6, [.ref zl, .ref zs, .int sz, .int at_, .int gp])), (zs, .inl (cI, 40, .inl g_19))] := hD
          obtain ⟨x_20, ex_20⟩ : ∃ y : Int32, y = i_6 + 1 := ⟨_, rfl⟩
          have qx_20 : x_20.toInt = i_6.toInt + 1 := by rw [ex_20]; exact zf_add rfl (by decide) (by omega) (by omega)
          refine lv_iinc (v := x_20) (lv' := [(3, .int x_20), (2, .int x_18), (0, .ref z0), (1, .int md)]) hx hb dX6_takeSlack_37 hl (k := 1) rfl ex_20.symm (by decide) rfl (fun ls hl => ?_)
          refine lv_goto (tgt := 6) hx hb dX6_takeSlack_40 (by decide) ?_
          exfalso; omega
  | succ nfu ih =>
    intro i_6 v_3 g_2 H locs ls hP hD hS hl hpg_2 hloi_6 hni_6
    refine lv_iload_n hx hb dX6_takeSlack_6 rfl (lv_at hl 0 rfl) ?_
    refine lv_iload_n hx hb dX6_takeSlack_7 rfl (lv_at hl 3 rfl) ?_
    refine lv_iconst (v := 2) hx hb dX6_takeSlack_8 (by decide) ?_
    refine lv_iadd hx hb dX6_takeSlack_9 ?_
    refine lv_topi (fun x_21 ex_21 => ?_)
    have qx_21 : x_21.toInt = md.toInt + 2 := by rw [ex_21]; exact zf_add rfl (by decide) (by omega) (by omega)
    refine lv_icmp_gt (tgt := 43) hx hb dX6_takeSlack_10 (by decide) (fun c_22 => ?_) (fun c_22 => ?_)
    · have fc_22 : x_21.toInt < i_6.toInt := zf_lt c_22 rfl rfl
      refine lv_iload_n hx hb dX6_takeSlack_43 rfl (lv_at hl 1 rfl) ?_
      exact W.iret (v := v_3) hx hb hr (fun t ht hW => ⟨⟨v_3, g_2, rfl, ⟨hpg_2, trivial⟩, by rw [ht]; exact hP.sub (ws' := [(z0, .inr (6, [.ref zl, .ref zs, .int sz, .int at_, .int gp])), (zs, .inl (cI, 40, .inl g_2))]) [0, 1] rfl, hD.sub (ws' := [(z0, .inr (6, [.ref zl, .ref zs, .int sz, .int at_, .int gp])), (zs, .inl (cI, 40, .inl g_2))]) [0, 1] (by decide) rfl⟩, hS.F ht⟩) hS.2.2 dX6_takeSlack_44
    · have fc_22 : i_6.toInt ≤ x_21.toInt := zf_nlt c_22 rfl rfl
      refine lv_aload_n hx hb dX6_takeSlack_13 rfl (lv_at hl 2 rfl) ?_
      refine lv_iload_n hx hb dX6_takeSlack_14 rfl (lv_at hl 0 rfl) ?_
      refine zc_V (As := [.int i_6]) (rest := []) ⟨hx, hb, hml, hown, hts⟩ (c_Zip_has l D cI cJ cZ cP cS po z0 zl zs (sz) (at_) (gp) (i_6) ) (cwV 1 hts gX6_takeSlack_X6_has rfl rfl rfl (by decide +kernel) ⟨Nat.le_of_ble_eq_true rfl, Nat.le_of_ble_eq_true rfl⟩) hK hN (hZ.kept hS) hP (hP.sub [0] rfl) (va_recv hK hP (ci := 6) (q0 := 0) rfl rfl) rfl hl.1 rfl (Nat.le_of_ble_eq_true rfl) dX6_takeSlack_15 ⟨Nat.le_of_ble_eq_true rfl, Nat.le_of_ble_eq_true rfl⟩ (fun r_23 hr_23 => ?_)
      rcases hr_23 with ⟨rfl, g_24⟩ | ⟨rfl, g_25, g_26⟩ | ⟨rfl, g_27, g_28⟩
      · refine lv_if_eq (tgt := 37) hx hb dX6_takeSlack_18 (by decide) (fun c_29 => ?_) (fun c_29 => ?_)
        · obtain ⟨x_30, ex_30⟩ : ∃ y : Int32, y = i_6 + 1 := ⟨_, rfl⟩
          have qx_30 : x_30.toInt = i_6.toInt + 1 := by rw [ex_30]; exact zf_add rfl (by decide) (by omega) (by omega)
          refine lv_iinc (v := x_30) (lv' := [(3, .int x_30), (2, .int v_3), (0, .ref z0), (1, .int md)]) hx hb dX6_takeSlack_37 hl (k := 0) rfl ex_30.symm (by decide) rfl (fun ls hl => ?_)
          refine lv_goto (tgt := 6) hx hb dX6_takeSlack_40 (by decide) ?_
          exact ih x_30 v_3 (g_2) _ _ _ (hP.sub [0, 1] rfl) (hD.sub [0, 1] (by decide) rfl) hS (lv_sub hl [0, 1, 2, 3] rfl) hpg_2 (by omega) (by omega)
        · exact absurd c_29 (by decide)
      · refine lv_if_eq (tgt := 37) hx hb dX6_takeSlack_18 (by decide) (fun c_31 => ?_) (fun c_31 => ?_)
        · obtain ⟨x_32, ex_32⟩ : ∃ y : Int32, y = i_6 + 1 := ⟨_, rfl⟩
          have qx_32 : x_32.toInt = i_6.toInt + 1 := by rw [ex_32]; exact zf_add rfl (by decide) (by omega) (by omega)
          refine lv_iinc (v := x_32) (lv' := [(3, .int x_32), (2, .int v_3), (0, .ref z0), (1, .int md)]) hx hb dX6_takeSlack_37 hl (k := 0) rfl ex_32.symm (by decide) rfl (fun ls hl => ?_)
          refine lv_goto (tgt := 6) hx hb dX6_takeSlack_40 (by decide) ?_
          exact ih x_32 v_3 (g_2) _ _ _ (hP.sub [0, 1] rfl) (hD.sub [0, 1] (by decide) rfl) hS (lv_sub hl [0, 1, 2, 3] rfl) hpg_2 (by omega) (by omega)
        · exact absurd c_31 (by decide)
      · refine lv_if_eq (tgt := 37) hx hb dX6_takeSlack_18 (by decide) (fun c_33 => ?_) (fun c_33 => ?_)
        · exact absurd c_33 (by decide)
        · refine lv_iload_n hx hb dX6_takeSlack_21 rfl (lv_at hl 1 rfl) ?_
          refine lv_aload_n hx hb dX6_takeSlack_22 rfl (lv_at hl 2 rfl) ?_
          refine va_get (D := D) (ci := 6) (v := .ref zs) (C := RX6) (T := TX6) (N := 5) hx hb hts hi_X6_takeSlack_6 hown hK hP 0 rfl rfl 1 (by decide) (hts (.fieldLink RX6 15 "TheLiningsInIt$Zip" "slacks" "[I") (List.mem_of_getElem? (i := 1) rfl)) (fun _ h9 => h9) rfl dX6_takeSlack_23 ?_
          refine lv_iload_n hx hb dX6_takeSlack_26 rfl (lv_at hl 0 rfl) ?_
          refine va_iald hx hb hK hP 1 0 rfl rfl (zf_in (by omega) (by omega)) dX6_takeSlack_27 ?_
          refine lv_topi (fun x_34 ex_34 => ?_)
          have bx_34 : 0 ≤ x_34.toInt ∧ x_34.toInt ≤ 9 := by rw [ex_34]; exact hpg_2 _
          refine lv_iadd hx hb dX6_takeSlack_28 ?_
          refine lv_topi (fun x_35 ex_35 => ?_)
          refine lv_istore_n (lv' := [(2, .int x_35), (3, .int i_6), (0, .ref z0), (1, .int md)]) hx hb dX6_takeSlack_29 rfl hl (by decide) rfl (fun ls hl => ?_)
          refine lv_aload_n hx hb dX6_takeSlack_30 rfl (lv_at hl 2 rfl) ?_
          refine va_get (D := D) (ci := 6) (v := .ref zs) (C := RX6) (T := TX6) (N := 5) hx hb hts hi_X6_takeSlack_6 hown hK hP 0 rfl rfl 1 (by decide) (hts (.fieldLink RX6 15 "TheLiningsInIt$Zip" "slacks" "[I") (List.mem_of_getElem? (i := 1) rfl)) (fun _ h9 => h9) rfl dX6_takeSlack_31 ?_
          refine lv_iload_n hx hb dX6_takeSlack_34 rfl (lv_at hl 1 rfl) ?_
          refine lv_iconst (v := 0) hx hb dX6_takeSlack_35 (by decide) ?_
          refine va_iast hx hb hK hP hD hS 1 0 rfl rfl (zf_in (by omega) (by omega)) dX6_takeSlack_36 (fun H locs hP hD hS => ?_)
          have hpg_36 : zRg (upd g_2 i_6.toNatClampNeg 0) (0) 9 := zRg_upd hpg_2 (by decide) (by decide)
          obtain ⟨g_36, hg_36⟩ : ∃ g : Nat → Int32, g = upd g_2 i_6.toNatClampNeg 0 := ⟨_, rfl⟩
          rw [← hg_36] at hP hD hpg_36
          clear hg_36
          replace hP : va_P D vwCl [(z0, .inr (6, [.ref zl, .ref zs, .int sz, .int at_, .int gp])), (zs, .inl (cI, 40, .inl g_36))] H := hP
          replace hD : va_D _ [(z0, .inr (6, [.ref zl, .ref zs, .int sz, .int at_, .int gp])), (zs, .inl (cI, 40, .inl g_36))] := hD
          obtain ⟨x_37, ex_37⟩ : ∃ y : Int32, y = i_6 + 1 := ⟨_, rfl⟩
          have qx_37 : x_37.toInt = i_6.toInt + 1 := by rw [ex_37]; exact zf_add rfl (by decide) (by omega) (by omega)
          refine lv_iinc (v := x_37) (lv' := [(3, .int x_37), (2, .int x_35), (0, .ref z0), (1, .int md)]) hx hb dX6_takeSlack_37 hl (k := 1) rfl ex_37.symm (by decide) rfl (fun ls hl => ?_)
          refine lv_goto (tgt := 6) hx hb dX6_takeSlack_40 (by decide) ?_
          exact ih x_37 x_35 (g_36) _ _ _ (hP.sub [0, 1] rfl) (hD.sub [0, 1] (by decide) rfl) hS (lv_sub hl [0, 1, 2, 3] rfl) hpg_36 (by omega) (by omega)
theorem hi_X6_renew_6 : ∀ w ∈ u_ws RX6 TX6 5, w ∈ wsX6_renew := fun w h => (goodIn_r (u_ws RX6 TX6 5) [5, 6, 7, 8, 9] rfl (by decide +kernel) w h).1
set_option maxHeartbeats 4000000 in
set_option maxRecDepth 100000 in
theorem c_Zip_renew (l : Launch) (D : va_G) (cI cJ cZ cP cS : ClassId) (po : zPool) (z0 zl zs : Nat) (sz at_ gp : Int32) (fl fs : Nat → Int32) (n : Int32) (hy0 : 4 ≤ sz.toInt) (hy1 : sz.toInt ≤ 40) (hy2 : 0 ≤ at_.toInt) (hy3 : at_.toInt ≤ 40) (hy4 : 1 ≤ gp.toInt) (hy5 : gp.toInt ≤ 9) (hy6 : 4 ≤ n.toInt) (hy7 : n.toInt ≤ 40) (hp_fl : zRg fl (0) 1) (hp_fs : zRg fs (0) 9) (hpz : Nat) : Met l yX6_renew wsX6_renew ({ frames := 0, cells := 0, slots := 0, locals := 0 }) (va_Pc [.ref z0, .int n] (zW D (zKT cI cJ cZ cP cS) po [(z0, .inr (6, [.ref zl, .ref zs, .int sz, .int at_, .int gp])), (zl, .inl (cZ, 40, .inl fl)), (zs, .inl (cI, 40, .inl fs))] hpz)) (va_Qv (fun (u : (Int32) × (Int32) × (Nat → Int32) × (Nat → Int32)) => (4 ≤ u.1.toInt ∧ u.1.toInt ≤ 40) ∧ (0 ≤ u.2.1.toInt ∧ u.2.1.toInt ≤ 40) ∧ zRg u.2.2.1 (0) 1 ∧ zRg u.2.2.2 (0) 9 ∧ (True)) (zB D [(z0, .inr (6, [.ref zl, .ref zs, .int sz, .int at_, .int gp])), (zl, .inl (cZ, 40, .inl fl)), (zs, .inl (cI, 40, .inl fs))] hpz (fun (u : (Int32) × (Int32) × (Nat → Int32) × (Nat → Int32)) => [(z0, .inr (6, [.ref zl, .ref zs, .int u.1, .int u.2.1, .int gp])), (zl, .inl (cZ, 40, .inl u.2.2.1)), (zs, .inl (cI, 40, .inl u.2.2.2))])) (va_A [(z0, .inr (6, [.ref zl, .ref zs, .int sz, .int at_, .int gp])), (zl, .inl (cZ, 40, .inl fl)), (zs, .inl (cI, 40, .inl fs))] hpz)) 0 0 (va_A [(z0, .inr (6, [.ref zl, .ref zs, .int sz, .int at_, .int gp])), (zl, .inl (cZ, 40, .inl fl)), (zs, .inl (cI, 40, .inl fs))] hpz) := by
  refine Met.ofW (cc := cX6_renew) (maxL := 3) (ret := none) (by decide) rfl ?_
  intro p e s m args below meth c s₁ B hml hv
  obtain ⟨rfl, hsz, hP, hK, hD0, hN, hZ⟩ := hv
  have hx := B.exec
  have hb := B.bytes
  have hr := B.returns
  have hts := atoms_spec (ws := wsX6_renew) B.pre
  have hown : s.vm.findClass RX6 = some m.cls := findClass_of_methodNamed B.named
  have hlocks := B.notSynchronized
  subst hsz
  have hD := hD0.self (sz := s.heap.size)
  have hA : ∀ q : Nat, s.heap.size ≤ q → va_A [(z0, .inr (6, [.ref zl, .ref zs, .int sz, .int at_, .int gp])), (zl, .inl (cZ, 40, .inl fl)), (zs, .inl (cI, 40, .inl fs))] s.heap.size q := fun q h => Or.inr h
  have hS : va_S (va_A [(z0, .inr (6, [.ref zl, .ref zs, .int sz, .int at_, .int gp])), (zl, .inl (cZ, 40, .inl fl)), (zs, .inl (cI, 40, .inl fs))] s.heap.size) s.heap s.heap [] := va_S.rf
  replace hP : va_P D vwCl _ s.heap := hP
  have hl := lv_entry ([.ref z0, .int n]) (n := 3) (Nat.le_of_ble_eq_true rfl)
  rw [lg_entry_eq]
  generalize (lg_sl ([.ref z0, .int n]) ++ List.replicate (3 - (lg_sl ([.ref z0, .int n])).length) Slot.unset).toArray = ls at hl ⊢
  replace hl : lv_has ls 3 [(0, .ref z0), (1, .int n)] := hl
  refine zw_start (fun H locs hH hL => ?_)
  replace hP : va_P D vwCl [(z0, .inr (6, [.ref zl, .ref zs, .int sz, .int at_, .int gp])), (zl, .inl (cZ, 40, .inl fl)), (zs, .inl (cI, 40, .inl fs))] H := by rw [hH]; exact hP
  replace hS : va_S (va_A [(z0, .inr (6, [.ref zl, .ref zs, .int sz, .int at_, .int gp])), (zl, .inl (cZ, 40, .inl fl)), (zs, .inl (cI, 40, .inl fs))] s.heap.size) s.heap H locs := by rw [hH, hL]; exact hS
  clear hH hL
  refine lv_aload_n hx hb dX6_renew_0 rfl (lv_at hl 0 rfl) ?_
  refine lv_iload_n hx hb dX6_renew_1 rfl (lv_at hl 1 rfl) ?_
  refine va_put (D := D) (ci := 6) (v := .int n) (ty := .int) (C := RX6) (T := TX6) (N := 5) hx hb hts hi_X6_renew_6 tyX6 tyX6_ok nmX6 hown hK hP hD hS 0 rfl rfl 2 (by decide) (hts (.fieldLink RX6 19 "TheLiningsInIt$Zip" "size" "I") (List.mem_of_getElem? (i := 1) rfl)) (fun _ h9 => h9) rfl (by decide +kernel) rfl rfl (Nat.le_of_ble_eq_true rfl) dX6_renew_2 (fun H locs hP hD hS => ?_)
  replace hP : va_P D vwCl [(z0, .inr (6, [.ref zl, .ref zs, .int n, .int at_, .int gp])), (zl, .inl (cZ, 40, .inl fl)), (zs, .inl (cI, 40, .inl fs))] H := hP
  replace hD : va_D _ [(z0, .inr (6, [.ref zl, .ref zs, .int n, .int at_, .int gp])), (zl, .inl (cZ, 40, .inl fl)), (zs, .inl (cI, 40, .inl fs))] := hD
  refine lv_aload_n hx hb dX6_renew_5 rfl (lv_at hl 0 rfl) ?_
  refine lv_iconst (v := 0) hx hb dX6_renew_6 (by decide) ?_
  refine va_put (D := D) (ci := 6) (v := .int 0) (ty := .int) (C := RX6) (T := TX6) (N := 5) hx hb hts hi_X6_renew_6 tyX6 tyX6_ok nmX6 hown hK hP hD hS 0 rfl rfl 3 (by decide) (hts (.fieldLink RX6 23 "TheLiningsInIt$Zip" "at" "I") (List.mem_of_getElem? (i := 2) rfl)) (fun _ h9 => h9) rfl (by decide +kernel) rfl rfl (Nat.le_of_ble_eq_true rfl) dX6_renew_7 (fun H locs hP hD hS => ?_)
  replace hP : va_P D vwCl [(z0, .inr (6, [.ref zl, .ref zs, .int n, .int 0, .int gp])), (zl, .inl (cZ, 40, .inl fl)), (zs, .inl (cI, 40, .inl fs))] H := hP
  replace hD : va_D _ [(z0, .inr (6, [.ref zl, .ref zs, .int n, .int 0, .int gp])), (zl, .inl (cZ, 40, .inl fl)), (zs, .inl (cI, 40, .inl fs))] := hD
  refine lv_iconst (v := 0) hx hb dX6_renew_10 (by decide) ?_
  refine lv_istore_n (lv' := [(2, .int 0), (0, .ref z0), (1, .int n)]) hx hb dX6_renew_11 rfl hl (by decide) rfl (fun ls hl => ?_)
  obtain ⟨i_12, hi_12⟩ : ∃ i : Int32, i = 0 := ⟨_, rfl⟩
  replace hl : lv_has ls 3 [(2, .int i_12), (0, .ref z0), (1, .int n)] := by rw [hi_12]; exact lv_sub hl [0, 1, 2] rfl
  have h1i_12 : i_12.toInt = 0 := by rw [hi_12]; decide
  obtain ⟨nfu, hni_12⟩ : ∃ nq9 : Nat, 40 ≤ i_12.toInt + (nq9 : Int) := ⟨((40 : Int) - 0).toNat, by omega⟩
  have hloi_12 : 0 ≤ i_12.toInt := by omega
  obtain ⟨g_1, hg_1⟩ : ∃ g : Nat → Int32, g = fl := ⟨_, rfl⟩
  have hpg_1 : zRg g_1 (0) 1 := by rw [hg_1]; exact hp_fl
  obtain ⟨g_2, hg_2⟩ : ∃ g : Nat → Int32, g = fs := ⟨_, rfl⟩
  have hpg_2 : zRg g_2 (0) 9 := by rw [hg_2]; exact hp_fs
  replace hP : va_P D vwCl [(z0, .inr (6, [.ref zl, .ref zs, .int n, .int 0, .int gp])), (zl, .inl (cZ, 40, .inl g_1)), (zs, .inl (cI, 40, .inl g_2))] H := by rw [hg_1, hg_2]; exact hP
  replace hD : va_D (va_A [(z0, .inr (6, [.ref zl, .ref zs, .int sz, .int at_, .int gp])), (zl, .inl (cZ, 40, .inl fl)), (zs, .inl (cI, 40, .inl fs))] s.heap.size) [(z0, .inr (6, [.ref zl, .ref zs, .int n, .int 0, .int gp])), (zl, .inl (cZ, 40, .inl g_1)), (zs, .inl (cI, 40, .inl g_2))] := by rw [hg_1, hg_2]; exact hD
  clear h1i_12 hi_12 hg_1 hg_2
  skip
  revert hni_12
  revert hloi_12
  revert hpg_2
  revert hpg_1
  revert hl
  revert hS
  revert hD
  revert hP
  revert ls
  revert locs
  revert H
  revert g_1
  revert g_2
  revert i_12
  induction nfu with
  | zero =>
    intro i_12 g_2 g_1 H locs ls hP hD hS hl hpg_1 hpg_2 hloi_12 hni_12
    have hzi_12 : 40 ≤ i_12.toInt := by omega
    refine lv_iload_n hx hb dX6_renew_12 rfl (lv_at hl 0 rfl) ?_
    refine lv_bipush (v := 40) hx hb dX6_renew_13 (by decide) ?_
    refine lv_icmp_ge (tgt := 38) hx hb dX6_renew_15 (by decide) (fun c_3 => ?_) (fun c_3 => ?_)
    · have fc_3 : 40 ≤ i_12.toInt := zf_le c_3 (by decide) rfl
      exact W.vret hx hb hr (fun t ht hW => ⟨⟨(n, 0, g_1, g_2), rfl, ⟨(show 4 ≤ n.toInt ∧ n.toInt ≤ 40 from ⟨hy6, hy7⟩), (show 0 ≤ (0 : Int32).toInt ∧ (0 : Int32).toInt ≤ 40 from by decide), hpg_1, hpg_2, trivial⟩, by rw [ht]; exact hP.sub (ws' := [(z0, .inr (6, [.ref zl, .ref zs, .int n, .int 0, .int gp])), (zl, .inl (cZ, 40, .inl g_1)), (zs, .inl (cI, 40, .inl g_2))]) [0, 1, 2] rfl, hD.sub (ws' := [(z0, .inr (6, [.ref zl, .ref zs, .int n, .int 0, .int gp])), (zl, .inl (cZ, 40, .inl g_1)), (zs, .inl (cI, 40, .inl g_2))]) [0, 1, 2] (by decide) rfl⟩, hS.F ht⟩) hS.2.2 dX6_renew_38
    · exfalso; have fc_3 : i_12.toInt < 40 := zf_nle c_3 (by decide) rfl; omega
  | succ nfu ih =>
    intro i_12 g_2 g_1 H locs ls hP hD hS hl hpg_1 hpg_2 hloi_12 hni_12
    refine lv_iload_n hx hb dX6_renew_12 rfl (lv_at hl 0 rfl) ?_
    refine lv_bipush (v := 40) hx hb dX6_renew_13 (by decide) ?_
    refine lv_icmp_ge (tgt := 38) hx hb dX6_renew_15 (by decide) (fun c_4 => ?_) (fun c_4 => ?_)
    · have fc_4 : 40 ≤ i_12.toInt := zf_le c_4 (by decide) rfl
      exact W.vret hx hb hr (fun t ht hW => ⟨⟨(n, 0, g_1, g_2), rfl, ⟨(show 4 ≤ n.toInt ∧ n.toInt ≤ 40 from ⟨hy6, hy7⟩), (show 0 ≤ (0 : Int32).toInt ∧ (0 : Int32).toInt ≤ 40 from by decide), hpg_1, hpg_2, trivial⟩, by rw [ht]; exact hP.sub (ws' := [(z0, .inr (6, [.ref zl, .ref zs, .int n, .int 0, .int gp])), (zl, .inl (cZ, 40, .inl g_1)), (zs, .inl (cI, 40, .inl g_2))]) [0, 1, 2] rfl, hD.sub (ws' := [(z0, .inr (6, [.ref zl, .ref zs, .int n, .int 0, .int gp])), (zl, .inl (cZ, 40, .inl g_1)), (zs, .inl (cI, 40, .inl g_2))]) [0, 1, 2] (by decide) rfl⟩, hS.F ht⟩) hS.2.2 dX6_renew_38
    · have fc_4 : i_12.toInt < 40 := zf_nle c_4 (by decide) rfl
      refine lv_aload_n hx hb dX6_renew_18 rfl (lv_at hl 1 rfl) ?_
      refine va_get (D := D) (ci := 6) (v := .ref zl) (C := RX6) (T := TX6) (N := 5) hx hb hts hi_X6_renew_6 hown hK hP 0 rfl rfl 0 (by decide) (hts (.fieldLink RX6 9 "TheLiningsInIt$Zip" "lacking" "[Z") (List.mem_of_getElem? (i := 3) rfl)) (fun _ h9 => h9) rfl dX6_renew_19 ?_
      refine lv_iload_n hx hb dX6_renew_22 rfl (lv_at hl 0 rfl) ?_
      refine lv_iconst (v := 0) hx hb dX6_renew_23 (by decide) ?_
      refine va_zast hx hb hK hP hD hS 1 2 rfl rfl (zf_in (by omega) (by omega)) dX6_renew_24 (fun H locs hP hD hS => ?_)
      rw [zNarZ (by decide) (by decide)] at hP hD
      have hpg_5 : zRg (upd g_1 i_12.toNatClampNeg 0) (0) 1 := zRg_upd hpg_1 (by decide) (by decide)
      obtain ⟨g_5, hg_5⟩ : ∃ g : Nat → Int32, g = upd g_1 i_12.toNatClampNeg 0 := ⟨_, rfl⟩
      rw [← hg_5] at hP hD hpg_5
      clear hg_5
      replace hP : va_P D vwCl [(z0, .inr (6, [.ref zl, .ref zs, .int n, .int 0, .int gp])), (zl, .inl (cZ, 40, .inl g_5)), (zs, .inl (cI, 40, .inl g_2))] H := hP
      replace hD : va_D _ [(z0, .inr (6, [.ref zl, .ref zs, .int n, .int 0, .int gp])), (zl, .inl (cZ, 40, .inl g_5)), (zs, .inl (cI, 40, .inl g_2))] := hD
      refine lv_aload_n hx hb dX6_renew_25 rfl (lv_at hl 1 rfl) ?_
      refine va_get (D := D) (ci := 6) (v := .ref zs) (C := RX6) (T := TX6) (N := 5) hx hb hts hi_X6_renew_6 hown hK hP 0 rfl rfl 1 (by decide) (hts (.fieldLink RX6 15 "TheLiningsInIt$Zip" "slacks" "[I") (List.mem_of_getElem? (i := 4) rfl)) (fun _ h9 => h9) rfl dX6_renew_26 ?_
      refine lv_iload_n hx hb dX6_renew_29 rfl (lv_at hl 0 rfl) ?_
      refine lv_iconst (v := 0) hx hb dX6_renew_30 (by decide) ?_
      refine va_iast hx hb hK hP hD hS 2 0 rfl rfl (zf_in (by omega) (by omega)) dX6_renew_31 (fun H locs hP hD hS => ?_)
      have hpg_6 : zRg (upd g_2 i_12.toNatClampNeg 0) (0) 9 := zRg_upd hpg_2 (by decide) (by decide)
      obtain ⟨g_6, hg_6⟩ : ∃ g : Nat → Int32, g = upd g_2 i_12.toNatClampNeg 0 := ⟨_, rfl⟩
      rw [← hg_6] at hP hD hpg_6
      clear hg_6
      replace hP : va_P D vwCl [(z0, .inr (6, [.ref zl, .ref zs, .int n, .int 0, .int gp])), (zl, .inl (cZ, 40, .inl g_5)), (zs, .inl (cI, 40, .inl g_6))] H := hP
      replace hD : va_D _ [(z0, .inr (6, [.ref zl, .ref zs, .int n, .int 0, .int gp])), (zl, .inl (cZ, 40, .inl g_5)), (zs, .inl (cI, 40, .inl g_6))] := hD
      obtain ⟨x_7, ex_7⟩ : ∃ y : Int32, y = i_12 + 1 := ⟨_, rfl⟩
      have qx_7 : x_7.toInt = i_12.toInt + 1 := by rw [ex_7]; exact zf_add rfl (by decide) (by omega) (by omega)
      refine lv_iinc (v := x_7) (lv' := [(2, .int x_7), (0, .ref z0), (1, .int n)]) hx hb dX6_renew_32 hl (k := 0) rfl ex_7.symm (by decide) rfl (fun ls hl => ?_)
      refine lv_goto (tgt := 12) hx hb dX6_renew_35 (by decide) ?_
      exact ih x_7 (g_6) (g_5) _ _ _ (hP.sub [0, 1, 2] rfl) (hD.sub [0, 1, 2] (by decide) rfl) hS (lv_sub hl [0, 1, 2] rfl) hpg_5 hpg_6 (by omega) (by omega)
theorem hi_X6_become_6 : ∀ w ∈ u_ws RX6 TX6 5, w ∈ wsX6_become := fun w h => (goodIn_r (u_ws RX6 TX6 5) [6, 7, 8, 9, 10] rfl (by decide +kernel) w h).1
set_option maxHeartbeats 4000000 in
set_option maxRecDepth 100000 in
theorem c_Zip_become (l : Launch) (D : va_G) (cI cJ cZ cP cS : ClassId) (po : zPool) (kz kzl kzs z0 zl zs : Nat) (ksz kat kgp sz at_ gp : Int32) (kfl kfs fl fs : Nat → Int32) (hy0 : 4 ≤ ksz.toInt) (hy1 : ksz.toInt ≤ 40) (hy2 : 0 ≤ kat.toInt) (hy3 : kat.toInt ≤ 40) (hy4 : 1 ≤ kgp.toInt) (hy5 : kgp.toInt ≤ 9) (hy6 : 4 ≤ sz.toInt) (hy7 : sz.toInt ≤ 40) (hy8 : 0 ≤ at_.toInt) (hy9 : at_.toInt ≤ 40) (hy10 : 1 ≤ gp.toInt) (hy11 : gp.toInt ≤ 9) (hp_kfl : zRg kfl (0) 1) (hp_kfs : zRg kfs (0) 9) (hp_fl : zRg fl (0) 1) (hp_fs : zRg fs (0) 9) (hpz : Nat) : Met l yX6_become wsX6_become ({ frames := 0, cells := 0, slots := 0, locals := 0 }) (va_Pc [.ref kz, .ref z0] (zW D (zKT cI cJ cZ cP cS) po [(kz, .inr (6, [.ref kzl, .ref kzs, .int ksz, .int kat, .int kgp])), (kzl, .inl (cZ, 40, .inl kfl)), (kzs, .inl (cI, 40, .inl kfs)), (z0, .inr (6, [.ref zl, .ref zs, .int sz, .int at_, .int gp])), (zl, .inl (cZ, 40, .inl fl)), (zs, .inl (cI, 40, .inl fs))] hpz)) (va_Qv (fun (u : (Int32) × (Int32) × (Int32) × (Nat → Int32) × (Nat → Int32)) => (4 ≤ u.1.toInt ∧ u.1.toInt ≤ 40) ∧ (0 ≤ u.2.1.toInt ∧ u.2.1.toInt ≤ 40) ∧ (1 ≤ u.2.2.1.toInt ∧ u.2.2.1.toInt ≤ 9) ∧ zRg u.2.2.2.1 (0) 1 ∧ zRg u.2.2.2.2 (0) 9 ∧ (True)) (zB D [(kz, .inr (6, [.ref kzl, .ref kzs, .int ksz, .int kat, .int kgp])), (kzl, .inl (cZ, 40, .inl kfl)), (kzs, .inl (cI, 40, .inl kfs)), (z0, .inr (6, [.ref zl, .ref zs, .int sz, .int at_, .int gp])), (zl, .inl (cZ, 40, .inl fl)), (zs, .inl (cI, 40, .inl fs))] hpz (fun (u : (Int32) × (Int32) × (Int32) × (Nat → Int32) × (Nat → Int32)) => [(kz, .inr (6, [.ref kzl, .ref kzs, .int u.1, .int u.2.1, .int u.2.2.1])), (kzl, .inl (cZ, 40, .inl u.2.2.2.1)), (kzs, .inl (cI, 40, .inl u.2.2.2.2)), (z0, .inr (6, [.ref zl, .ref zs, .int sz, .int at_, .int gp])), (zl, .inl (cZ, 40, .inl fl)), (zs, .inl (cI, 40, .inl fs))])) (va_A [(kz, .inr (6, [.ref kzl, .ref kzs, .int ksz, .int kat, .int kgp])), (kzl, .inl (cZ, 40, .inl kfl)), (kzs, .inl (cI, 40, .inl kfs)), (z0, .inr (6, [.ref zl, .ref zs, .int sz, .int at_, .int gp])), (zl, .inl (cZ, 40, .inl fl)), (zs, .inl (cI, 40, .inl fs))] hpz)) 0 0 (va_A [(kz, .inr (6, [.ref kzl, .ref kzs, .int ksz, .int kat, .int kgp])), (kzl, .inl (cZ, 40, .inl kfl)), (kzs, .inl (cI, 40, .inl kfs)), (z0, .inr (6, [.ref zl, .ref zs, .int sz, .int at_, .int gp])), (zl, .inl (cZ, 40, .inl fl)), (zs, .inl (cI, 40, .inl fs))] hpz) := by
  refine Met.ofW (cc := cX6_become) (maxL := 3) (ret := none) (by decide) rfl ?_
  intro p e s m args below meth c s₁ B hml hv
  obtain ⟨rfl, hsz, hP, hK, hD0, hN, hZ⟩ := hv
  have hx := B.exec
  have hb := B.bytes
  have hr := B.returns
  have hts := atoms_spec (ws := wsX6_become) B.pre
  have hown : s.vm.findClass RX6 = some m.cls := findClass_of_methodNamed B.named
  have hlocks := B.notSynchronized
  subst hsz
  have hD := hD0.self (sz := s.heap.size)
  have hA : ∀ q : Nat, s.heap.size ≤ q → va_A [(kz, .inr (6, [.ref kzl, .ref kzs, .int ksz, .int kat, .int kgp])), (kzl, .inl (cZ, 40, .inl kfl)), (kzs, .inl (cI, 40, .inl kfs)), (z0, .inr (6, [.ref zl, .ref zs, .int sz, .int at_, .int gp])), (zl, .inl (cZ, 40, .inl fl)), (zs, .inl (cI, 40, .inl fs))] s.heap.size q := fun q h => Or.inr h
  have hS : va_S (va_A [(kz, .inr (6, [.ref kzl, .ref kzs, .int ksz, .int kat, .int kgp])), (kzl, .inl (cZ, 40, .inl kfl)), (kzs, .inl (cI, 40, .inl kfs)), (z0, .inr (6, [.ref zl, .ref zs, .int sz, .int at_, .int gp])), (zl, .inl (cZ, 40, .inl fl)), (zs, .inl (cI, 40, .inl fs))] s.heap.size) s.heap s.heap [] := va_S.rf
  replace hP : va_P D vwCl _ s.heap := hP
  have hl := lv_entry ([.ref kz, .ref z0]) (n := 3) (Nat.le_of_ble_eq_true rfl)
  rw [lg_entry_eq]
  generalize (lg_sl ([.ref kz, .ref z0]) ++ List.replicate (3 - (lg_sl ([.ref kz, .ref z0])).length) Slot.unset).toArray = ls at hl ⊢
  replace hl : lv_has ls 3 [(0, .ref kz), (1, .ref z0)] := hl
  refine zw_start (fun H locs hH hL => ?_)
  replace hP : va_P D vwCl [(kz, .inr (6, [.ref kzl, .ref kzs, .int ksz, .int kat, .int kgp])), (kzl, .inl (cZ, 40, .inl kfl)), (kzs, .inl (cI, 40, .inl kfs)), (z0, .inr (6, [.ref zl, .ref zs, .int sz, .int at_, .int gp])), (zl, .inl (cZ, 40, .inl fl)), (zs, .inl (cI, 40, .inl fs))] H := by rw [hH]; exact hP
  replace hS : va_S (va_A [(kz, .inr (6, [.ref kzl, .ref kzs, .int ksz, .int kat, .int kgp])), (kzl, .inl (cZ, 40, .inl kfl)), (kzs, .inl (cI, 40, .inl kfs)), (z0, .inr (6, [.ref zl, .ref zs, .int sz, .int at_, .int gp])), (zl, .inl (cZ, 40, .inl fl)), (zs, .inl (cI, 40, .inl fs))] s.heap.size) s.heap H locs := by rw [hH, hL]; exact hS
  clear hH hL
  refine lv_iconst (v := 0) hx hb dX6_become_0 (by decide) ?_
  refine lv_istore_n (lv' := [(2, .int 0), (0, .ref kz), (1, .ref z0)]) hx hb dX6_become_1 rfl hl (by decide) rfl (fun ls hl => ?_)
  obtain ⟨i_2, hi_2⟩ : ∃ i : Int32, i = 0 := ⟨_, rfl⟩
  replace hl : lv_has ls 3 [(2, .int i_2), (0, .ref kz), (1, .ref z0)] := by rw [hi_2]; exact lv_sub hl [0, 1, 2] rfl
  have h1i_2 : i_2.toInt = 0 := by rw [hi_2]; decide
  obtain ⟨nfu, hni_2⟩ : ∃ nq9 : Nat, 40 ≤ i_2.toInt + (nq9 : Int) := ⟨((40 : Int) - 0).toNat, by omega⟩
  have hloi_2 : 0 ≤ i_2.toInt := by omega
  obtain ⟨g_1, hg_1⟩ : ∃ g : Nat → Int32, g = kfl := ⟨_, rfl⟩
  have hpg_1 : zRg g_1 (0) 1 := by rw [hg_1]; exact hp_kfl
  obtain ⟨g_2, hg_2⟩ : ∃ g : Nat → Int32, g = kfs := ⟨_, rfl⟩
  have hpg_2 : zRg g_2 (0) 9 := by rw [hg_2]; exact hp_kfs
  replace hP : va_P D vwCl [(kz, .inr (6, [.ref kzl, .ref kzs, .int ksz, .int kat, .int kgp])), (kzl, .inl (cZ, 40, .inl g_1)), (kzs, .inl (cI, 40, .inl g_2)), (z0, .inr (6, [.ref zl, .ref zs, .int sz, .int at_, .int gp])), (zl, .inl (cZ, 40, .inl fl)), (zs, .inl (cI, 40, .inl fs))] H := by rw [hg_1, hg_2]; exact hP
  replace hD : va_D (va_A [(kz, .inr (6, [.ref kzl, .ref kzs, .int ksz, .int kat, .int kgp])), (kzl, .inl (cZ, 40, .inl kfl)), (kzs, .inl (cI, 40, .inl kfs)), (z0, .inr (6, [.ref zl, .ref zs, .int sz, .int at_, .int gp])), (zl, .inl (cZ, 40, .inl fl)), (zs, .inl (cI, 40, .inl fs))] s.heap.size) [(kz, .inr (6, [.ref kzl, .ref kzs, .int ksz, .int kat, .int kgp])), (kzl, .inl (cZ, 40, .inl g_1)), (kzs, .inl (cI, 40, .inl g_2)), (z0, .inr (6, [.ref zl, .ref zs, .int sz, .int at_, .int gp])), (zl, .inl (cZ, 40, .inl fl)), (zs, .inl (cI, 40, .inl fs))] := by rw [hg_1, hg_2]; exact hD
  clear h1i_2 hi_2 hg_1 hg_2
  skip
  revert hni_2
  revert hloi_2
  revert hpg_2
  revert hpg_1
  revert hl
  revert hS
  revert hD
  revert hP
  revert ls
  revert locs
  revert H
  revert g_1
  revert g_2
  revert i_2
  induction nfu with
  | zero =>
    intro i_2 g_2 g_1 H locs ls hP hD hS hl hpg_1 hpg_2 hloi_2 hni_2
    have hzi_2 : 40 ≤ i_2.toInt := by omega
    refine lv_iload_n hx hb dX6_become_2 rfl (lv_at hl 0 rfl) ?_
    refine lv_bipush (v := 40) hx hb dX6_become_3 (by decide) ?_
    refine lv_icmp_ge (tgt := 38) hx hb dX6_become_5 (by decide) (fun c_3 => ?_) (fun c_3 => ?_)
    · have fc_3 : 40 ≤ i_2.toInt := zf_le c_3 (by decide) rfl
      refine lv_aload_n hx hb dX6_become_38 rfl (lv_at hl 1 rfl) ?_
      refine lv_aload_n hx hb dX6_become_39 rfl (lv_at hl 2 rfl) ?_
      refine va_get (D := D) (ci := 6) (v := .int sz) (C := RX6) (T := TX6) (N := 5) hx hb hts hi_X6_become_6 hown hK hP 3 rfl rfl 2 (by decide) (hts (.fieldLink RX6 19 "TheLiningsInIt$Zip" "size" "I") (List.mem_of_getElem? (i := 3) rfl)) (fun _ h9 => h9) rfl dX6_become_40 ?_
      refine va_put (D := D) (ci := 6) (v := .int sz) (ty := .int) (C := RX6) (T := TX6) (N := 5) hx hb hts hi_X6_become_6 tyX6 tyX6_ok nmX6 hown hK hP hD hS 0 rfl rfl 2 (by decide) (hts (.fieldLink RX6 19 "TheLiningsInIt$Zip" "size" "I") (List.mem_of_getElem? (i := 3) rfl)) (fun _ h9 => h9) rfl (by decide +kernel) rfl rfl (Nat.le_of_ble_eq_true rfl) dX6_become_43 (fun H locs hP hD hS => ?_)
      replace hP : va_P D vwCl [(kz, .inr (6, [.ref kzl, .ref kzs, .int sz, .int kat, .int kgp])), (kzl, .inl (cZ, 40, .inl g_1)), (kzs, .inl (cI, 40, .inl g_2)), (z0, .inr (6, [.ref zl, .ref zs, .int sz, .int at_, .int gp])), (zl, .inl (cZ, 40, .inl fl)), (zs, .inl (cI, 40, .inl fs))] H := hP
      replace hD : va_D _ [(kz, .inr (6, [.ref kzl, .ref kzs, .int sz, .int kat, .int kgp])), (kzl, .inl (cZ, 40, .inl g_1)), (kzs, .inl (cI, 40, .inl g_2)), (z0, .inr (6, [.ref zl, .ref zs, .int sz, .int at_, .int gp])), (zl, .inl (cZ, 40, .inl fl)), (zs, .inl (cI, 40, .inl fs))] := hD
      refine lv_aload_n hx hb dX6_become_46 rfl (lv_at hl 1 rfl) ?_
      refine lv_aload_n hx hb dX6_become_47 rfl (lv_at hl 2 rfl) ?_
      refine va_get (D := D) (ci := 6) (v := .int at_) (C := RX6) (T := TX6) (N := 5) hx hb hts hi_X6_become_6 hown hK hP 3 rfl rfl 3 (by decide) (hts (.fieldLink RX6 23 "TheLiningsInIt$Zip" "at" "I") (List.mem_of_getElem? (i := 4) rfl)) (fun _ h9 => h9) rfl dX6_become_48 ?_
      refine va_put (D := D) (ci := 6) (v := .int at_) (ty := .int) (C := RX6) (T := TX6) (N := 5) hx hb hts hi_X6_become_6 tyX6 tyX6_ok nmX6 hown hK hP hD hS 0 rfl rfl 3 (by decide) (hts (.fieldLink RX6 23 "TheLiningsInIt$Zip" "at" "I") (List.mem_of_getElem? (i := 4) rfl)) (fun _ h9 => h9) rfl (by decide +kernel) rfl rfl (Nat.le_of_ble_eq_true rfl) dX6_become_51 (fun H locs hP hD hS => ?_)
      replace hP : va_P D vwCl [(kz, .inr (6, [.ref kzl, .ref kzs, .int sz, .int at_, .int kgp])), (kzl, .inl (cZ, 40, .inl g_1)), (kzs, .inl (cI, 40, .inl g_2)), (z0, .inr (6, [.ref zl, .ref zs, .int sz, .int at_, .int gp])), (zl, .inl (cZ, 40, .inl fl)), (zs, .inl (cI, 40, .inl fs))] H := hP
      replace hD : va_D _ [(kz, .inr (6, [.ref kzl, .ref kzs, .int sz, .int at_, .int kgp])), (kzl, .inl (cZ, 40, .inl g_1)), (kzs, .inl (cI, 40, .inl g_2)), (z0, .inr (6, [.ref zl, .ref zs, .int sz, .int at_, .int gp])), (zl, .inl (cZ, 40, .inl fl)), (zs, .inl (cI, 40, .inl fs))] := hD
      refine lv_aload_n hx hb dX6_become_54 rfl (lv_at hl 1 rfl) ?_
      refine lv_aload_n hx hb dX6_become_55 rfl (lv_at hl 2 rfl) ?_
      refine va_get (D := D) (ci := 6) (v := .int gp) (C := RX6) (T := TX6) (N := 5) hx hb hts hi_X6_become_6 hown hK hP 3 rfl rfl 4 (by decide) (hts (.fieldLink RX6 26 "TheLiningsInIt$Zip" "gap" "I") (List.mem_of_getElem? (i := 5) rfl)) (fun _ h9 => h9) rfl dX6_become_56 ?_
      refine va_put (D := D) (ci := 6) (v := .int gp) (ty := .int) (C := RX6) (T := TX6) (N := 5) hx hb hts hi_X6_become_6 tyX6 tyX6_ok nmX6 hown hK hP hD hS 0 rfl rfl 4 (by decide) (hts (.fieldLink RX6 26 "TheLiningsInIt$Zip" "gap" "I") (List.mem_of_getElem? (i := 5) rfl)) (fun _ h9 => h9) rfl (by decide +kernel) rfl rfl (Nat.le_of_ble_eq_true rfl) dX6_become_59 (fun H locs hP hD hS => ?_)
      replace hP : va_P D vwCl [(kz, .inr (6, [.ref kzl, .ref kzs, .int sz, .int at_, .int gp])), (kzl, .inl (cZ, 40, .inl g_1)), (kzs, .inl (cI, 40, .inl g_2)), (z0, .inr (6, [.ref zl, .ref zs, .int sz, .int at_, .int gp])), (zl, .inl (cZ, 40, .inl fl)), (zs, .inl (cI, 40, .inl fs))] H := hP
      replace hD : va_D _ [(kz, .inr (6, [.ref kzl, .ref kzs, .int sz, .int at_, .int gp])), (kzl, .inl (cZ, 40, .inl g_1)), (kzs, .inl (cI, 40, .inl g_2)), (z0, .inr (6, [.ref zl, .ref zs, .int sz, .int at_, .int gp])), (zl, .inl (cZ, 40, .inl fl)), (zs, .inl (cI, 40, .inl fs))] := hD
      exact W.vret hx hb hr (fun t ht hW => ⟨⟨(sz, at_, gp, g_1, g_2), rfl, ⟨(show 4 ≤ sz.toInt ∧ sz.toInt ≤ 40 from ⟨hy6, hy7⟩), (show 0 ≤ at_.toInt ∧ at_.toInt ≤ 40 from ⟨hy8, hy9⟩), (show 1 ≤ gp.toInt ∧ gp.toInt ≤ 9 from ⟨hy10, hy11⟩), hpg_1, hpg_2, trivial⟩, by rw [ht]; exact hP.sub (ws' := [(kz, .inr (6, [.ref kzl, .ref kzs, .int sz, .int at_, .int gp])), (kzl, .inl (cZ, 40, .inl g_1)), (kzs, .inl (cI, 40, .inl g_2)), (z0, .inr (6, [.ref zl, .ref zs, .int sz, .int at_, .int gp])), (zl, .inl (cZ, 40, .inl fl)), (zs, .inl (cI, 40, .inl fs))]) [0, 1, 2, 3, 4, 5] rfl, hD.sub (ws' := [(kz, .inr (6, [.ref kzl, .ref kzs, .int sz, .int at_, .int gp])), (kzl, .inl (cZ, 40, .inl g_1)), (kzs, .inl (cI, 40, .inl g_2)), (z0, .inr (6, [.ref zl, .ref zs, .int sz, .int at_, .int gp])), (zl, .inl (cZ, 40, .inl fl)), (zs, .inl (cI, 40, .inl fs))]) [0, 1, 2, 3, 4, 5] (by decide) rfl⟩, hS.F ht⟩) hS.2.2 dX6_become_62
    · exfalso; have fc_3 : i_2.toInt < 40 := zf_nle c_3 (by decide) rfl; omega
  | succ nfu ih =>
    intro i_2 g_2 g_1 H locs ls hP hD hS hl hpg_1 hpg_2 hloi_2 hni_2
    refine lv_iload_n hx hb dX6_become_2 rfl (lv_at hl 0 rfl) ?_
    refine lv_bipush (v := 40) hx hb dX6_become_3 (by decide) ?_
    refine lv_icmp_ge (tgt := 38) hx hb dX6_become_5 (by decide) (fun c_4 => ?_) (fun c_4 => ?_)
    · have fc_4 : 40 ≤ i_2.toInt := zf_le c_4 (by decide) rfl
      refine lv_aload_n hx hb dX6_become_38 rfl (lv_at hl 1 rfl) ?_
      refine lv_aload_n hx hb dX6_become_39 rfl (lv_at hl 2 rfl) ?_
      refine va_get (D := D) (ci := 6) (v := .int sz) (C := RX6) (T := TX6) (N := 5) hx hb hts hi_X6_become_6 hown hK hP 3 rfl rfl 2 (by decide) (hts (.fieldLink RX6 19 "TheLiningsInIt$Zip" "size" "I") (List.mem_of_getElem? (i := 3) rfl)) (fun _ h9 => h9) rfl dX6_become_40 ?_
      refine va_put (D := D) (ci := 6) (v := .int sz) (ty := .int) (C := RX6) (T := TX6) (N := 5) hx hb hts hi_X6_become_6 tyX6 tyX6_ok nmX6 hown hK hP hD hS 0 rfl rfl 2 (by decide) (hts (.fieldLink RX6 19 "TheLiningsInIt$Zip" "size" "I") (List.mem_of_getElem? (i := 3) rfl)) (fun _ h9 => h9) rfl (by decide +kernel) rfl rfl (Nat.le_of_ble_eq_true rfl) dX6_become_43 (fun H locs hP hD hS => ?_)
      replace hP : va_P D vwCl [(kz, .inr (6, [.ref kzl, .ref kzs, .int sz, .int kat, .int kgp])), (kzl, .inl (cZ, 40, .inl g_1)), (kzs, .inl (cI, 40, .inl g_2)), (z0, .inr (6, [.ref zl, .ref zs, .int sz, .int at_, .int gp])), (zl, .inl (cZ, 40, .inl fl)), (zs, .inl (cI, 40, .inl fs))] H := hP
      replace hD : va_D _ [(kz, .inr (6, [.ref kzl, .ref kzs, .int sz, .int kat, .int kgp])), (kzl, .inl (cZ, 40, .inl g_1)), (kzs, .inl (cI, 40, .inl g_2)), (z0, .inr (6, [.ref zl, .ref zs, .int sz, .int at_, .int gp])), (zl, .inl (cZ, 40, .inl fl)), (zs, .inl (cI, 40, .inl fs))] := hD
      refine lv_aload_n hx hb dX6_become_46 rfl (lv_at hl 1 rfl) ?_
      refine lv_aload_n hx hb dX6_become_47 rfl (lv_at hl 2 rfl) ?_
      refine va_get (D := D) (ci := 6) (v := .int at_) (C := RX6) (T := TX6) (N := 5) hx hb hts hi_X6_become_6 hown hK hP 3 rfl rfl 3 (by decide) (hts (.fieldLink RX6 23 "TheLiningsInIt$Zip" "at" "I") (List.mem_of_getElem? (i := 4) rfl)) (fun _ h9 => h9) rfl dX6_become_48 ?_
      refine va_put (D := D) (ci := 6) (v := .int at_) (ty := .int) (C := RX6) (T := TX6) (N := 5) hx hb hts hi_X6_become_6 tyX6 tyX6_ok nmX6 hown hK hP hD hS 0 rfl rfl 3 (by decide) (hts (.fieldLink RX6 23 "TheLiningsInIt$Zip" "at" "I") (List.mem_of_getElem? (i := 4) rfl)) (fun _ h9 => h9) rfl (by decide +kernel) rfl rfl (Nat.le_of_ble_eq_true rfl) dX6_become_51 (fun H locs hP hD hS => ?_)
      replace hP : va_P D vwCl [(kz, .inr (6, [.ref kzl, .ref kzs, .int sz, .int at_, .int kgp])), (kzl, .inl (cZ, 40, .inl g_1)), (kzs, .inl (cI, 40, .inl g_2)), (z0, .inr (6, [.ref zl, .ref zs, .int sz, .int at_, .int gp])), (zl, .inl (cZ, 40, .inl fl)), (zs, .inl (cI, 40, .inl fs))] H := hP
      replace hD : va_D _ [(kz, .inr (6, [.ref kzl, .ref kzs, .int sz, .int at_, .int kgp])), (kzl, .inl (cZ, 40, .inl g_1)), (kzs, .inl (cI, 40, .inl g_2)), (z0, .inr (6, [.ref zl, .ref zs, .int sz, .int at_, .int gp])), (zl, .inl (cZ, 40, .inl fl)), (zs, .inl (cI, 40, .inl fs))] := hD
      refine lv_aload_n hx hb dX6_become_54 rfl (lv_at hl 1 rfl) ?_
      refine lv_aload_n hx hb dX6_become_55 rfl (lv_at hl 2 rfl) ?_
      refine va_get (D := D) (ci := 6) (v := .int gp) (C := RX6) (T := TX6) (N := 5) hx hb hts hi_X6_become_6 hown hK hP 3 rfl rfl 4 (by decide) (hts (.fieldLink RX6 26 "TheLiningsInIt$Zip" "gap" "I") (List.mem_of_getElem? (i := 5) rfl)) (fun _ h9 => h9) rfl dX6_become_56 ?_
      refine va_put (D := D) (ci := 6) (v := .int gp) (ty := .int) (C := RX6) (T := TX6) (N := 5) hx hb hts hi_X6_become_6 tyX6 tyX6_ok nmX6 hown hK hP hD hS 0 rfl rfl 4 (by decide) (hts (.fieldLink RX6 26 "TheLiningsInIt$Zip" "gap" "I") (List.mem_of_getElem? (i := 5) rfl)) (fun _ h9 => h9) rfl (by decide +kernel) rfl rfl (Nat.le_of_ble_eq_true rfl) dX6_become_59 (fun H locs hP hD hS => ?_)
      replace hP : va_P D vwCl [(kz, .inr (6, [.ref kzl, .ref kzs, .int sz, .int at_, .int gp])), (kzl, .inl (cZ, 40, .inl g_1)), (kzs, .inl (cI, 40, .inl g_2)), (z0, .inr (6, [.ref zl, .ref zs, .int sz, .int at_, .int gp])), (zl, .inl (cZ, 40, .inl fl)), (zs, .inl (cI, 40, .inl fs))] H := hP
      replace hD : va_D _ [(kz, .inr (6, [.ref kzl, .ref kzs, .int sz, .int at_, .int gp])), (kzl, .inl (cZ, 40, .inl g_1)), (kzs, .inl (cI, 40, .inl g_2)), (z0, .inr (6, [.ref zl, .ref zs, .int sz, .int at_, .int gp])), (zl, .inl (cZ, 40, .inl fl)), (zs, .inl (cI, 40, .inl fs))] := hD
      exact W.vret hx hb hr (fun t ht hW => ⟨⟨(sz, at_, gp, g_1, g_2), rfl, ⟨(show 4 ≤ sz.toInt ∧ sz.toInt ≤ 40 from ⟨hy6, hy7⟩), (show 0 ≤ at_.toInt ∧ at_.toInt ≤ 40 from ⟨hy8, hy9⟩), (show 1 ≤ gp.toInt ∧ gp.toInt ≤ 9 from ⟨hy10, hy11⟩), hpg_1, hpg_2, trivial⟩, by rw [ht]; exact hP.sub (ws' := [(kz, .inr (6, [.ref kzl, .ref kzs, .int sz, .int at_, .int gp])), (kzl, .inl (cZ, 40, .inl g_1)), (kzs, .inl (cI, 40, .inl g_2)), (z0, .inr (6, [.ref zl, .ref zs, .int sz, .int at_, .int gp])), (zl, .inl (cZ, 40, .inl fl)), (zs, .inl (cI, 40, .inl fs))]) [0, 1, 2, 3, 4, 5] rfl, hD.sub (ws' := [(kz, .inr (6, [.ref kzl, .ref kzs, .int sz, .int at_, .int gp])), (kzl, .inl (cZ, 40, .inl g_1)), (kzs, .inl (cI, 40, .inl g_2)), (z0, .inr (6, [.ref zl, .ref zs, .int sz, .int at_, .int gp])), (zl, .inl (cZ, 40, .inl fl)), (zs, .inl (cI, 40, .inl fs))]) [0, 1, 2, 3, 4, 5] (by decide) rfl⟩, hS.F ht⟩) hS.2.2 dX6_become_62
    · have fc_4 : i_2.toInt < 40 := zf_nle c_4 (by decide) rfl
      refine lv_aload_n hx hb dX6_become_8 rfl (lv_at hl 1 rfl) ?_
      refine va_get (D := D) (ci := 6) (v := .ref kzl) (C := RX6) (T := TX6) (N := 5) hx hb hts hi_X6_become_6 hown hK hP 0 rfl rfl 0 (by decide) (hts (.fieldLink RX6 9 "TheLiningsInIt$Zip" "lacking" "[Z") (List.mem_of_getElem? (i := 1) rfl)) (fun _ h9 => h9) rfl dX6_become_9 ?_
      refine lv_iload_n hx hb dX6_become_12 rfl (lv_at hl 0 rfl) ?_
      refine lv_aload_n hx hb dX6_become_13 rfl (lv_at hl 2 rfl) ?_
      refine va_get (D := D) (ci := 6) (v := .ref zl) (C := RX6) (T := TX6) (N := 5) hx hb hts hi_X6_become_6 hown hK hP 3 rfl rfl 0 (by decide) (hts (.fieldLink RX6 9 "TheLiningsInIt$Zip" "lacking" "[Z") (List.mem_of_getElem? (i := 1) rfl)) (fun _ h9 => h9) rfl dX6_become_14 ?_
      refine lv_iload_n hx hb dX6_become_17 rfl (lv_at hl 0 rfl) ?_
      refine va_zald hx hb hK hP 4 2 rfl rfl (zf_in (by omega) (by omega)) dX6_become_18 ?_
      refine lv_topi (fun x_5 ex_5 => ?_)
      have bx_5 : 0 ≤ x_5.toInt ∧ x_5.toInt ≤ 1 := by rw [ex_5]; exact hp_fl _
      refine va_zast hx hb hK hP hD hS 1 2 rfl rfl (zf_in (by omega) (by omega)) dX6_become_19 (fun H locs hP hD hS => ?_)
      rw [zNarZ (by omega) (by omega)] at hP hD
      have hpg_6 : zRg (upd g_1 i_2.toNatClampNeg x_5) (0) 1 := zRg_upd hpg_1 (by omega) (by omega)
      obtain ⟨g_6, hg_6⟩ : ∃ g : Nat → Int32, g = upd g_1 i_2.toNatClampNeg x_5 := ⟨_, rfl⟩
      rw [← hg_6] at hP hD hpg_6
      clear hg_6
      replace hP : va_P D vwCl [(kz, .inr (6, [.ref kzl, .ref kzs, .int ksz, .int kat, .int kgp])), (kzl, .inl (cZ, 40, .inl g_6)), (kzs, .inl (cI, 40, .inl g_2)), (z0, .inr (6, [.ref zl, .ref zs, .int sz, .int at_, .int gp])), (zl, .inl (cZ, 40, .inl fl)), (zs, .inl (cI, 40, .inl fs))] H := hP
      replace hD : va_D _ [(kz, .inr (6, [.ref kzl, .ref kzs, .int ksz, .int kat, .int kgp])), (kzl, .inl (cZ, 40, .inl g_6)), (kzs, .inl (cI, 40, .inl g_2)), (z0, .inr (6, [.ref zl, .ref zs, .int sz, .int at_, .int gp])), (zl, .inl (cZ, 40, .inl fl)), (zs, .inl (cI, 40, .inl fs))] := hD
      refine lv_aload_n hx hb dX6_become_20 rfl (lv_at hl 1 rfl) ?_
      refine va_get (D := D) (ci := 6) (v := .ref kzs) (C := RX6) (T := TX6) (N := 5) hx hb hts hi_X6_become_6 hown hK hP 0 rfl rfl 1 (by decide) (hts (.fieldLink RX6 15 "TheLiningsInIt$Zip" "slacks" "[I") (List.mem_of_getElem? (i := 2) rfl)) (fun _ h9 => h9) rfl dX6_become_21 ?_
      refine lv_iload_n hx hb dX6_become_24 rfl (lv_at hl 0 rfl) ?_
      refine lv_aload_n hx hb dX6_become_25 rfl (lv_at hl 2 rfl) ?_
      refine va_get (D := D) (ci := 6) (v := .ref zs) (C := RX6) (T := TX6) (N := 5) hx hb hts hi_X6_become_6 hown hK hP 3 rfl rfl 1 (by decide) (hts (.fieldLink RX6 15 "TheLiningsInIt$Zip" "slacks" "[I") (List.mem_of_getElem? (i := 2) rfl)) (fun _ h9 => h9) rfl dX6_become_26 ?_
      refine lv_iload_n hx hb dX6_become_29 rfl (lv_at hl 0 rfl) ?_
      refine va_iald hx hb hK hP 5 0 rfl rfl (zf_in (by omega) (by omega)) dX6_become_30 ?_
      refine lv_topi (fun x_7 ex_7 => ?_)
      have bx_7 : 0 ≤ x_7.toInt ∧ x_7.toInt ≤ 9 := by rw [ex_7]; exact hp_fs _
      refine va_iast hx hb hK hP hD hS 2 0 rfl rfl (zf_in (by omega) (by omega)) dX6_become_31 (fun H locs hP hD hS => ?_)
      have hpg_8 : zRg (upd g_2 i_2.toNatClampNeg x_7) (0) 9 := zRg_upd hpg_2 (by omega) (by omega)
      obtain ⟨g_8, hg_8⟩ : ∃ g : Nat → Int32, g = upd g_2 i_2.toNatClampNeg x_7 := ⟨_, rfl⟩
      rw [← hg_8] at hP hD hpg_8
      clear hg_8
      replace hP : va_P D vwCl [(kz, .inr (6, [.ref kzl, .ref kzs, .int ksz, .int kat, .int kgp])), (kzl, .inl (cZ, 40, .inl g_6)), (kzs, .inl (cI, 40, .inl g_8)), (z0, .inr (6, [.ref zl, .ref zs, .int sz, .int at_, .int gp])), (zl, .inl (cZ, 40, .inl fl)), (zs, .inl (cI, 40, .inl fs))] H := hP
      replace hD : va_D _ [(kz, .inr (6, [.ref kzl, .ref kzs, .int ksz, .int kat, .int kgp])), (kzl, .inl (cZ, 40, .inl g_6)), (kzs, .inl (cI, 40, .inl g_8)), (z0, .inr (6, [.ref zl, .ref zs, .int sz, .int at_, .int gp])), (zl, .inl (cZ, 40, .inl fl)), (zs, .inl (cI, 40, .inl fs))] := hD
      obtain ⟨x_9, ex_9⟩ : ∃ y : Int32, y = i_2 + 1 := ⟨_, rfl⟩
      have qx_9 : x_9.toInt = i_2.toInt + 1 := by rw [ex_9]; exact zf_add rfl (by decide) (by omega) (by omega)
      refine lv_iinc (v := x_9) (lv' := [(2, .int x_9), (0, .ref kz), (1, .ref z0)]) hx hb dX6_become_32 hl (k := 0) rfl ex_9.symm (by decide) rfl (fun ls hl => ?_)
      refine lv_goto (tgt := 2) hx hb dX6_become_35 (by decide) ?_
      exact ih x_9 (g_8) (g_6) _ _ _ (hP.sub [0, 1, 2, 3, 4, 5] rfl) (hD.sub [0, 1, 2, 3, 4, 5] (by decide) rfl) hS (lv_sub hl [0, 1, 2] rfl) hpg_6 hpg_8 (by omega) (by omega)
