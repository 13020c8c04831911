set_option maxHeartbeats 4000000 in
set_option maxRecDepth 100000 in
theorem c_F_Zip_takeSlack (l : Launch) (D : va_G) (cI cJ cZ cP cS : ClassId) (po : zPool) (z0 zl zs : Nat) (sz at_ gp : Int32) (fl fs : Nat → Int32) (md : Int32) (hy0 : 4 ≤ sz.toInt) (hy1 : sz.toInt ≤ 40) (hy2 : 0 ≤ at_.toInt) (hy3 : at_.toInt ≤ 40) (hy4 : 1 ≤ gp.toInt) (hy5 : gp.toInt ≤ 9) (hy6 : 0 ≤ md.toInt) (hy7 : md.toInt ≤ 39) (hp_fs : zRg fs (0) 9) (hpz : Nat) : Met l yX6_takeSlack wsX6_takeSlack ({ frames := 1, cells := 0, slots := 0, locals := 21 }) (va_Pc [.ref z0, .int md] (zW D (zKT cI cJ cZ cP cS) po [(z0, .inr (6, [.ref zl, .ref zs, .int sz, .int at_, .int gp])), (zs, .inl (cI, 40, .inl fs))] hpz)) (va_Qi (fun (r : Int32) (fs2 : (Nat → Int32)) => zRg fs2 (0) 9 ∧ (r.toInt = zTk fs sz.toInt (md.toInt - 2) 5) ∧ ((∀ j : Nat, fs2 j = (if md.toInt - 2 ≤ (j : Int) ∧ (j : Int) ≤ md.toInt + 2 ∧ (j : Int) < sz.toInt then 0 else fs j))) ∧ (True)) (zB D [(z0, .inr (6, [.ref zl, .ref zs, .int sz, .int at_, .int gp])), (zs, .inl (cI, 40, .inl fs))] hpz (fun (fs2 : Nat → Int32) => [(z0, .inr (6, [.ref zl, .ref zs, .int sz, .int at_, .int gp])), (zs, .inl (cI, 40, .inl fs2))])) (va_A [(z0, .inr (6, [.ref zl, .ref zs, .int sz, .int at_, .int gp])), (zs, .inl (cI, 40, .inl fs))] hpz)) 0 0 (va_A [(z0, .inr (6, [.ref zl, .ref zs, .int sz, .int at_, .int gp])), (zs, .inl (cI, 40, .inl fs))] hpz) := by
  refine Met.ofW (cc := cX6_takeSlack) (maxL := 4) (ret := (some .int)) (by decide) rfl ?_
  intro p e s m args below meth c s₁ B hml hv
  obtain ⟨rfl, hsz, hP, hK, hD0, hN, hZ⟩ := hv
  have hx := B.exec
  have hb := B.bytes
  have hr := B.returns
  have hts := atoms_spec (ws := wsX6_takeSlack) B.pre
  have hown : s.vm.findClass RX6 = some m.cls := findClass_of_methodNamed B.named
  have hlocks := B.notSynchronized
  subst hsz
  have hD := hD0.self (sz := s.heap.size)
  have hA := zA_of hD
  have hl := lv_entry ([.ref z0, .int md]) (n := 4) (Nat.le_of_ble_eq_true rfl)
  rw [lg_entry_eq]
  generalize (lg_sl ([.ref z0, .int md]) ++ List.replicate (4 - (lg_sl ([.ref z0, .int md])).length) Slot.unset).toArray = ls at hl ⊢
  replace hl : lv_has ls 4 [(0, .ref z0), (1, .int md)] := hl
  refine zw_begin hP hD (fun H locs hP1 hS => ?_)
  clear hP
  have hP := hP1
  clear hP1
  refine lv_iconst (v := 0) hx hb dX6_takeSlack_0 (by decide) ?_
  refine lv_istore_n (lv' := [(2, .int 0), (0, .ref z0), (1, .int md)]) hx hb dX6_takeSlack_1 rfl hl (by decide) rfl (fun ls hl => ?_)
  refine lv_iload_n hx hb dX6_takeSlack_2 rfl (lv_at hl 2 rfl) ?_
  refine lv_iconst (v := 2) hx hb dX6_takeSlack_3 (by decide) ?_
  refine lv_isub hx hb dX6_takeSlack_4 ?_
  refine lv_topi (fun x_1 ex_1 => ?_)
  have qx_1 : x_1.toInt = md.toInt - 2 := by rw [ex_1]; exact zf_sub rfl (by decide) (by omega) (by omega)
  refine lv_istore_n (lv' := [(3, .int x_1), (2, .int 0), (0, .ref z0), (1, .int md)]) hx hb dX6_takeSlack_5 rfl hl (by decide) rfl (fun ls hl => ?_)
  obtain ⟨i_6, hi_6⟩ : ∃ i : Int32, i = x_1 := ⟨_, rfl⟩
  replace hl : lv_has ls 4 [(3, .int i_6), (2, .int 0), (0, .ref z0), (1, .int md)] := by rw [hi_6]; exact lv_sub hl [0, 1, 2, 3] rfl
  have h1i_6 : i_6.toInt = x_1.toInt := by rw [hi_6]
  obtain ⟨nfu, hni_6⟩ : ∃ nq9 : Nat, md.toInt + 3 ≤ i_6.toInt + (nq9 : Int) := ⟨((md.toInt + 3 : Int) - x_1.toInt).toNat, by omega⟩
  have hloi_6 : -2 ≤ i_6.toInt := by omega
  obtain ⟨g_2, hg_2⟩ : ∃ g : Nat → Int32, g = fs := ⟨_, rfl⟩
  have hpg_2 : zRg g_2 (0) 9 := by rw [hg_2]; exact hp_fs
  replace hP : va_P D vwCl [(z0, .inr (6, [.ref zl, .ref zs, .int sz, .int at_, .int gp])), (zs, .inl (cI, 40, .inl g_2))] H := by rw [hg_2]; exact hP
  replace hD : va_D (va_A [(z0, .inr (6, [.ref zl, .ref zs, .int sz, .int at_, .int gp])), (zs, .inl (cI, 40, .inl fs))] s.heap.size) [(z0, .inr (6, [.ref zl, .ref zs, .int sz, .int at_, .int gp])), (zs, .inl (cI, 40, .inl g_2))] := by rw [hg_2]; exact hD
  obtain ⟨v_3, hv_3⟩ : ∃ g : Int32, g = 0 := ⟨_, rfl⟩
  replace hl : lv_has ls 4 [(3, .int i_6), (2, .int v_3), (0, .ref z0), (1, .int md)] := by rw [hv_3]; exact hl
  have hbv_3 : 0 ≤ v_3.toInt ∧ v_3.toInt ≤ 45 := by rw [hv_3]; exact ⟨by decide, by decide⟩
  have hvi_6_0 : (v_3 : Int32).toInt = zTk fs sz.toInt (md.toInt - 2) (i_6.toInt - (md.toInt - 2)).toNat := by
    (try rw [hi_6]); (try rw [hg_2]); (try rw [hv_3]); (exact Eq.trans (show (0 : Int32).toInt = zTk fs sz.toInt (md.toInt - 2) 0 from (by decide : (0 : Int32).toInt = 0)) (congrArg _ (by omega)))
  have hvi_6_1 : (∀ j : Nat, g_2 j = (if md.toInt - 2 ≤ (j : Int) ∧ (j : Int) < i_6.toInt ∧ (j : Int) < sz.toInt then 0 else fs j)) := by
    (try rw [hi_6]); (try rw [hg_2]); (try rw [hv_3]); (intro j; rw [if_neg (by omega)])
  have hvi_6_2 : md.toInt - 2 ≤ i_6.toInt ∧ i_6.toInt ≤ md.toInt + 3 ∧ (v_3 : Int32).toInt ≤ 9 * (i_6.toInt - (md.toInt - 2)) := by
    (try rw [hi_6]); (try rw [hg_2]); (try rw [hv_3]); (have k0 : (0 : Int32).toInt = 0 := (by decide); omega)
  clear h1i_6 hi_6 hg_2 hv_3
  skip
  revert hni_6
  revert hloi_6
  revert hvi_6_2
  revert hvi_6_1
  revert hvi_6_0
  revert hbv_3
  revert hpg_2
  revert hl
  revert hS
  revert hD
  revert hP
  revert ls
  revert locs
  revert H
  revert g_2
  revert v_3
  revert i_6
  induction nfu with
  | zero =>
    intro i_6 v_3 g_2 H locs ls hP hD hS hl hpg_2 hbv_3 hvi_6_0 hvi_6_1 hvi_6_2 hloi_6 hni_6
    have hzi_6 : md.toInt + 3 ≤ i_6.toInt := by omega
    refine lv_iload_n hx hb dX6_takeSlack_6 rfl (lv_at hl 0 rfl) ?_
    refine lv_iload_n hx hb dX6_takeSlack_7 rfl (lv_at hl 3 rfl) ?_
    refine lv_iconst (v := 2) hx hb dX6_takeSlack_8 (by decide) ?_
    refine lv_iadd hx hb dX6_takeSlack_9 ?_
    refine lv_topi (fun x_4 ex_4 => ?_)
    have qx_4 : x_4.toInt = md.toInt + 2 := by rw [ex_4]; exact zf_add rfl (by decide) (by omega) (by omega)
    refine lv_icmp_gt (tgt := 43) hx hb dX6_takeSlack_10 (by decide) (fun c_5 => ?_) (fun c_5 => ?_)
    · have fc_5 : x_4.toInt < i_6.toInt := zf_lt c_5 rfl rfl
      refine lv_iload_n hx hb dX6_takeSlack_43 rfl (lv_at hl 1 rfl) ?_
      exact W.iret (v := v_3) hx hb hr (fun t ht hW => ⟨⟨v_3, g_2, rfl, ⟨hpg_2, (show (v_3 : Int32).toInt = zTk fs sz.toInt (md.toInt - 2) 5 from by (have h9 : (i_6.toInt - (md.toInt - 2)).toNat = 5 := (by omega); have z := hvi_6_0; rw [h9] at z; exact z)), (show (∀ j : Nat, g_2 j = (if md.toInt - 2 ≤ (j : Int) ∧ (j : Int) ≤ md.toInt + 2 ∧ (j : Int) < sz.toInt then 0 else fs j)) from by (intro j; have z := hvi_6_1 j; rw [z]; by_cases c : md.toInt - 2 ≤ (j : Int) ∧ (j : Int) < i_6.toInt ∧ (j : Int) < sz.toInt; (rw [if_pos c, if_pos (by omega)]); (rw [if_neg c, if_neg (by omega)]))), trivial⟩, zRet ht hP hD [0, 1] (by decide) rfl⟩, hS.F ht⟩) hS.2.2 dX6_takeSlack_44
    · have fc_5 : i_6.toInt ≤ x_4.toInt := zf_nlt c_5 rfl rfl
      refine lv_aload_n hx hb dX6_takeSlack_13 rfl (lv_at hl 2 rfl) ?_
      refine lv_iload_n hx hb dX6_takeSlack_14 rfl (lv_at hl 0 rfl) ?_
      refine zc_V (As := [.int i_6]) (rest := []) ⟨hx, hb, hml, hown, hts⟩ (c_Zip_has l D cI cJ cZ cP cS po z0 zl zs (sz) (at_) (gp) (i_6) ) (cwV 1 hts gX6_takeSlack_X6_has rfl rfl rfl ⟨rfl, dh_X6_has⟩ ⟨Nat.le_of_ble_eq_true rfl, Nat.le_of_ble_eq_true rfl⟩) hK hN (hZ.kept hS) hP (hP.sub [0] rfl) (va_recv (q := (RX6, TX6, 5)) hK hP (ci := 6) (q0 := 0) rfl rfl) rfl hl.1 rfl (Nat.le_of_ble_eq_true rfl) dX6_takeSlack_15 ⟨Nat.le_of_ble_eq_true rfl, Nat.le_of_ble_eq_true rfl⟩ (fun r_6 hr_6 => ?_)
      rcases hr_6 with ⟨rfl, g_7⟩ | ⟨rfl, g_8, g_9⟩ | ⟨rfl, g_10, g_11⟩
      · refine lv_if_eq (tgt := 37) hx hb dX6_takeSlack_18 (by decide) (fun c_12 => ?_) (fun c_12 => ?_)
        · obtain ⟨x_13, ex_13⟩ : ∃ y : Int32, y = i_6 + 1 := ⟨_, rfl⟩
          have rax_13 := zf_rng i_6
          have qx_13 : x_13.toInt = i_6.toInt + 1 := by rw [ex_13]; exact zf_add rfl (by decide) (by omega) (by omega)
          refine lv_iinc (v := x_13) (lv' := [(3, .int x_13), (2, .int v_3), (0, .ref z0), (1, .int md)]) hx hb dX6_takeSlack_37 hl (k := 0) rfl ex_13.symm (by decide) rfl (fun ls hl => ?_)
          refine lv_goto (tgt := 6) hx hb dX6_takeSlack_40 (by decide) ?_
          exfalso; omega
        · exact absurd c_12 (by decide)
      · refine lv_if_eq (tgt := 37) hx hb dX6_takeSlack_18 (by decide) (fun c_14 => ?_) (fun c_14 => ?_)
        · obtain ⟨x_15, ex_15⟩ : ∃ y : Int32, y = i_6 + 1 := ⟨_, rfl⟩
          have qx_15 : x_15.toInt = i_6.toInt + 1 := by rw [ex_15]; exact zf_add rfl (by decide) (by omega) (by omega)
          refine lv_iinc (v := x_15) (lv' := [(3, .int x_15), (2, .int v_3), (0, .ref z0), (1, .int md)]) hx hb dX6_takeSlack_37 hl (k := 0) rfl ex_15.symm (by decide) rfl (fun ls hl => ?_)
          refine lv_goto (tgt := 6) hx hb dX6_takeSlack_40 (by decide) ?_
          exfalso; omega
        · exact absurd c_14 (by decide)
      · refine lv_if_eq (tgt := 37) hx hb dX6_takeSlack_18 (by decide) (fun c_16 => ?_) (fun c_16 => ?_)
        · exact absurd c_16 (by decide)
        · refine lv_iload_n hx hb dX6_takeSlack_21 rfl (lv_at hl 1 rfl) ?_
          refine lv_aload_n hx hb dX6_takeSlack_22 rfl (lv_at hl 2 rfl) ?_
          refine va_get (D := D) (ci := 6) (v := .ref zs) (C := RX6) (T := TX6) (N := 5) hx hb hts hi_X6_takeSlack_6 hown hK hP 0 rfl rfl 1 (by decide) (hts (.fieldLink RX6 15 "TheLiningsInIt$Zip" "slacks" "[I") (List.mem_of_getElem? (i := 1) rfl)) (fun _ h9 => h9) rfl dX6_takeSlack_23 ?_
          refine lv_iload_n hx hb dX6_takeSlack_26 rfl (lv_at hl 0 rfl) ?_
          refine va_iald hx hb hK hP 1 0 rfl rfl (zf_in (by omega) (by omega)) dX6_takeSlack_27 ?_
          refine lv_topi (fun x_17 ex_17 => ?_)
          have bx_17 : 0 ≤ x_17.toInt ∧ x_17.toInt ≤ 9 := by rw [ex_17]; exact hpg_2 _
          refine lv_iadd hx hb dX6_takeSlack_28 ?_
          refine lv_topi (fun x_18 ex_18 => ?_)
          have qx_18 : x_18.toInt = v_3.toInt + x_17.toInt := by rw [ex_18]; exact zf_add rfl rfl (by omega) (by omega)
          refine lv_istore_n (lv' := [(2, .int x_18), (3, .int i_6), (0, .ref z0), (1, .int md)]) hx hb dX6_takeSlack_29 rfl hl (by decide) rfl (fun ls hl => ?_)
          refine lv_aload_n hx hb dX6_takeSlack_30 rfl (lv_at hl 2 rfl) ?_
          refine va_get (D := D) (ci := 6) (v := .ref zs) (C := RX6) (T := TX6) (N := 5) hx hb hts hi_X6_takeSlack_6 hown hK hP 0 rfl rfl 1 (by decide) (hts (.fieldLink RX6 15 "TheLiningsInIt$Zip" "slacks" "[I") (List.mem_of_getElem? (i := 1) rfl)) (fun _ h9 => h9) rfl dX6_takeSlack_31 ?_
          refine lv_iload_n hx hb dX6_takeSlack_34 rfl (lv_at hl 1 rfl) ?_
          refine lv_iconst (v := 0) hx hb dX6_takeSlack_35 (by decide) ?_
          refine va_iast hx hb hK hP hD hS 1 0 rfl rfl (zf_in (by omega) (by omega)) dX6_takeSlack_36 (fun H locs hP hD hS => ?_)
          have hpg_19 : zRg (upd g_2 i_6.toNatClampNeg 0) (0) 9 := zRg_upd hpg_2 (by decide) (by decide)
          obtain ⟨g_19, hg_19⟩ : ∃ g : Nat → Int32, g = upd g_2 i_6.toNatClampNeg 0 := ⟨_, rfl⟩
          rw [← hg_19] at hP hD hpg_19
          have h9R := zRe (ws' := [(z0, .inr (6, [.ref zl, .ref zs, .int sz, .int at_, .int gp])), (zs, .inl (cI, 40, .inl g_19))]) hP hD rfl
          clear hP hD
          obtain ⟨hP, hD⟩ := h9R
          obtain ⟨x_20, ex_20⟩ : ∃ y : Int32, y = i_6 + 1 := ⟨_, rfl⟩
          have qx_20 : x_20.toInt = i_6.toInt + 1 := by rw [ex_20]; exact zf_add rfl (by decide) (by omega) (by omega)
          refine lv_iinc (v := x_20) (lv' := [(3, .int x_20), (2, .int x_18), (0, .ref z0), (1, .int md)]) hx hb dX6_takeSlack_37 hl (k := 1) rfl ex_20.symm (by decide) rfl (fun ls hl => ?_)
          refine lv_goto (tgt := 6) hx hb dX6_takeSlack_40 (by decide) ?_
          exfalso; omega
  | succ nfu ih =>
    intro i_6 v_3 g_2 H locs ls hP hD hS hl hpg_2 hbv_3 hvi_6_0 hvi_6_1 hvi_6_2 hloi_6 hni_6
    refine lv_iload_n hx hb dX6_takeSlack_6 rfl (lv_at hl 0 rfl) ?_
    refine lv_iload_n hx hb dX6_takeSlack_7 rfl (lv_at hl 3 rfl) ?_
    refine lv_iconst (v := 2) hx hb dX6_takeSlack_8 (by decide) ?_
    refine lv_iadd hx hb dX6_takeSlack_9 ?_
    refine lv_topi (fun x_21 ex_21 => ?_)
    have qx_21 : x_21.toInt = md.toInt + 2 := by rw [ex_21]; exact zf_add rfl (by decide) (by omega) (by omega)
    refine lv_icmp_gt (tgt := 43) hx hb dX6_takeSlack_10 (by decide) (fun c_22 => ?_) (fun c_22 => ?_)
    · have fc_22 : x_21.toInt < i_6.toInt := zf_lt c_22 rfl rfl
      refine lv_iload_n hx hb dX6_takeSlack_43 rfl (lv_at hl 1 rfl) ?_
      exact W.iret (v := v_3) hx hb hr (fun t ht hW => ⟨⟨v_3, g_2, rfl, ⟨hpg_2, (show (v_3 : Int32).toInt = zTk fs sz.toInt (md.toInt - 2) 5 from by (have h9 : (i_6.toInt - (md.toInt - 2)).toNat = 5 := (by omega); have z := hvi_6_0; rw [h9] at z; exact z)), (show (∀ j : Nat, g_2 j = (if md.toInt - 2 ≤ (j : Int) ∧ (j : Int) ≤ md.toInt + 2 ∧ (j : Int) < sz.toInt then 0 else fs j)) from by (intro j; have z := hvi_6_1 j; rw [z]; by_cases c : md.toInt - 2 ≤ (j : Int) ∧ (j : Int) < i_6.toInt ∧ (j : Int) < sz.toInt; (rw [if_pos c, if_pos (by omega)]); (rw [if_neg c, if_neg (by omega)]))), trivial⟩, zRet ht hP hD [0, 1] (by decide) rfl⟩, hS.F ht⟩) hS.2.2 dX6_takeSlack_44
    · have fc_22 : i_6.toInt ≤ x_21.toInt := zf_nlt c_22 rfl rfl
      refine lv_aload_n hx hb dX6_takeSlack_13 rfl (lv_at hl 2 rfl) ?_
      refine lv_iload_n hx hb dX6_takeSlack_14 rfl (lv_at hl 0 rfl) ?_
      refine zc_V (As := [.int i_6]) (rest := []) ⟨hx, hb, hml, hown, hts⟩ (c_Zip_has l D cI cJ cZ cP cS po z0 zl zs (sz) (at_) (gp) (i_6) ) (cwV 1 hts gX6_takeSlack_X6_has rfl rfl rfl ⟨rfl, dh_X6_has⟩ ⟨Nat.le_of_ble_eq_true rfl, Nat.le_of_ble_eq_true rfl⟩) hK hN (hZ.kept hS) hP (hP.sub [0] rfl) (va_recv (q := (RX6, TX6, 5)) hK hP (ci := 6) (q0 := 0) rfl rfl) rfl hl.1 rfl (Nat.le_of_ble_eq_true rfl) dX6_takeSlack_15 ⟨Nat.le_of_ble_eq_true rfl, Nat.le_of_ble_eq_true rfl⟩ (fun r_23 hr_23 => ?_)
      rcases hr_23 with ⟨rfl, g_24⟩ | ⟨rfl, g_25, g_26⟩ | ⟨rfl, g_27, g_28⟩
      · refine lv_if_eq (tgt := 37) hx hb dX6_takeSlack_18 (by decide) (fun c_29 => ?_) (fun c_29 => ?_)
        · obtain ⟨x_30, ex_30⟩ : ∃ y : Int32, y = i_6 + 1 := ⟨_, rfl⟩
          have qx_30 : x_30.toInt = i_6.toInt + 1 := by rw [ex_30]; exact zf_add rfl (by decide) (by omega) (by omega)
          refine lv_iinc (v := x_30) (lv' := [(3, .int x_30), (2, .int v_3), (0, .ref z0), (1, .int md)]) hx hb dX6_takeSlack_37 hl (k := 0) rfl ex_30.symm (by decide) rfl (fun ls hl => ?_)
          refine lv_goto (tgt := 6) hx hb dX6_takeSlack_40 (by decide) ?_
          exact ih x_30 v_3 (g_2) _ _ _ (hP.sub [0, 1] rfl) (hD.sub [0, 1] (by decide) rfl) hS (lv_sub hl [0, 1, 2, 3] rfl) hpg_2 hbv_3 (show (v_3 : Int32).toInt = zTk fs sz.toInt (md.toInt - 2) (x_30.toInt - (md.toInt - 2)).toNat from by (rw [show (x_30.toInt - (md.toInt - 2)).toNat = (i_6.toInt - (md.toInt - 2)).toNat + 1 from by omega, zTk_s, show md.toInt - 2 + (((i_6.toInt - (md.toInt - 2)).toNat : Nat) : Int) = i_6.toInt from by omega]; rw [if_neg (by omega)]; omega)) (show (∀ j : Nat, g_2 j = (if md.toInt - 2 ≤ (j : Int) ∧ (j : Int) < x_30.toInt ∧ (j : Int) < sz.toInt then 0 else fs j)) from by (intro j; have z := hvi_6_1 j; rw [z]; by_cases c : md.toInt - 2 ≤ (j : Int) ∧ (j : Int) < i_6.toInt ∧ (j : Int) < sz.toInt; (rw [if_pos c, if_pos (by omega)]); (rw [if_neg c, if_neg (by omega)]))) (show md.toInt - 2 ≤ x_30.toInt ∧ x_30.toInt ≤ md.toInt + 3 ∧ (v_3 : Int32).toInt ≤ 9 * (x_30.toInt - (md.toInt - 2)) from by exact ⟨by omega, by omega, by omega⟩) (dw_lo hloi_6 qx_30) (dw_hn hni_6 qx_30)
        · exact absurd c_29 (by decide)
      · refine lv_if_eq (tgt := 37) hx hb dX6_takeSlack_18 (by decide) (fun c_31 => ?_) (fun c_31 => ?_)
        · obtain ⟨x_32, ex_32⟩ : ∃ y : Int32, y = i_6 + 1 := ⟨_, rfl⟩
          have qx_32 : x_32.toInt = i_6.toInt + 1 := by rw [ex_32]; exact zf_add rfl (by decide) (by omega) (by omega)
          refine lv_iinc (v := x_32) (lv' := [(3, .int x_32), (2, .int v_3), (0, .ref z0), (1, .int md)]) hx hb dX6_takeSlack_37 hl (k := 0) rfl ex_32.symm (by decide) rfl (fun ls hl => ?_)
          refine lv_goto (tgt := 6) hx hb dX6_takeSlack_40 (by decide) ?_
          exact ih x_32 v_3 (g_2) _ _ _ (hP.sub [0, 1] rfl) (hD.sub [0, 1] (by decide) rfl) hS (lv_sub hl [0, 1, 2, 3] rfl) hpg_2 hbv_3 (show (v_3 : Int32).toInt = zTk fs sz.toInt (md.toInt - 2) (x_32.toInt - (md.toInt - 2)).toNat from by (rw [show (x_32.toInt - (md.toInt - 2)).toNat = (i_6.toInt - (md.toInt - 2)).toNat + 1 from by omega, zTk_s, show md.toInt - 2 + (((i_6.toInt - (md.toInt - 2)).toNat : Nat) : Int) = i_6.toInt from by omega]; rw [if_neg (by omega)]; omega)) (show (∀ j : Nat, g_2 j = (if md.toInt - 2 ≤ (j : Int) ∧ (j : Int) < x_32.toInt ∧ (j : Int) < sz.toInt then 0 else fs j)) from by (intro j; have z := hvi_6_1 j; rw [z]; by_cases c : md.toInt - 2 ≤ (j : Int) ∧ (j : Int) < i_6.toInt ∧ (j : Int) < sz.toInt; (rw [if_pos c, if_pos (by omega)]); (rw [if_neg c, if_neg (by omega)]))) (show md.toInt - 2 ≤ x_32.toInt ∧ x_32.toInt ≤ md.toInt + 3 ∧ (v_3 : Int32).toInt ≤ 9 * (x_32.toInt - (md.toInt - 2)) from by exact ⟨by omega, by omega, by omega⟩) (dw_lo hloi_6 qx_32) (dw_hn hni_6 qx_32)
        · exact absurd c_31 (by decide)
      · refine lv_if_eq (tgt := 37) hx hb dX6_takeSlack_18 (by decide) (fun c_33 => ?_) (fun c_33 => ?_)
        · exact absurd c_33 (by decide)
        · refine lv_iload_n hx hb dX6_takeSlack_21 rfl (lv_at hl 1 rfl) ?_
          refine lv_aload_n hx hb dX6_takeSlack_22 rfl (lv_at hl 2 rfl) ?_
          refine va_get (D := D) (ci := 6) (v := .ref zs) (C := RX6) (T := TX6) (N := 5) hx hb hts hi_X6_takeSlack_6 hown hK hP 0 rfl rfl 1 (by decide) (hts (.fieldLink RX6 15 "TheLiningsInIt$Zip" "slacks" "[I") (List.mem_of_getElem? (i := 1) rfl)) (fun _ h9 => h9) rfl dX6_takeSlack_23 ?_
          refine lv_iload_n hx hb dX6_takeSlack_26 rfl (lv_at hl 0 rfl) ?_
          refine va_iald hx hb hK hP 1 0 rfl rfl (zf_in (by omega) (by omega)) dX6_takeSlack_27 ?_
          refine lv_topi (fun x_34 ex_34 => ?_)
          have bx_34 : 0 ≤ x_34.toInt ∧ x_34.toInt ≤ 9 := by rw [ex_34]; exact hpg_2 _
          refine lv_iadd hx hb dX6_takeSlack_28 ?_
          refine lv_topi (fun x_35 ex_35 => ?_)
          have qx_35 : x_35.toInt = v_3.toInt + x_34.toInt := by rw [ex_35]; exact zf_add rfl rfl (by omega) (by omega)
          refine lv_istore_n (lv' := [(2, .int x_35), (3, .int i_6), (0, .ref z0), (1, .int md)]) hx hb dX6_takeSlack_29 rfl hl (by decide) rfl (fun ls hl => ?_)
          refine lv_aload_n hx hb dX6_takeSlack_30 rfl (lv_at hl 2 rfl) ?_
          refine va_get (D := D) (ci := 6) (v := .ref zs) (C := RX6) (T := TX6) (N := 5) hx hb hts hi_X6_takeSlack_6 hown hK hP 0 rfl rfl 1 (by decide) (hts (.fieldLink RX6 15 "TheLiningsInIt$Zip" "slacks" "[I") (List.mem_of_getElem? (i := 1) rfl)) (fun _ h9 => h9) rfl dX6_takeSlack_31 ?_
          refine lv_iload_n hx hb dX6_takeSlack_34 rfl (lv_at hl 1 rfl) ?_
          refine lv_iconst (v := 0) hx hb dX6_takeSlack_35 (by decide) ?_
          refine va_iast hx hb hK hP hD hS 1 0 rfl rfl (zf_in (by omega) (by omega)) dX6_takeSlack_36 (fun H locs hP hD hS => ?_)
          have hpg_36 : zRg (upd g_2 i_6.toNatClampNeg 0) (0) 9 := zRg_upd hpg_2 (by decide) (by decide)
          obtain ⟨g_36, hg_36⟩ : ∃ g : Nat → Int32, g = upd g_2 i_6.toNatClampNeg 0 := ⟨_, rfl⟩
          rw [← hg_36] at hP hD hpg_36
          have h9R := zRe (ws' := [(z0, .inr (6, [.ref zl, .ref zs, .int sz, .int at_, .int gp])), (zs, .inl (cI, 40, .inl g_36))]) hP hD rfl
          clear hP hD
          obtain ⟨hP, hD⟩ := h9R
          obtain ⟨x_37, ex_37⟩ : ∃ y : Int32, y = i_6 + 1 := ⟨_, rfl⟩
          have qx_37 : x_37.toInt = i_6.toInt + 1 := by rw [ex_37]; exact zf_add rfl (by decide) (by omega) (by omega)
          refine lv_iinc (v := x_37) (lv' := [(3, .int x_37), (2, .int x_35), (0, .ref z0), (1, .int md)]) hx hb dX6_takeSlack_37 hl (k := 1) rfl ex_37.symm (by decide) rfl (fun ls hl => ?_)
          refine lv_goto (tgt := 6) hx hb dX6_takeSlack_40 (by decide) ?_
          exact ih x_37 x_35 (g_36) _ _ _ (hP.sub [0, 1] rfl) (hD.sub [0, 1] (by decide) rfl) hS (lv_sub hl [0, 1, 2, 3] rfl) hpg_36 ⟨by omega, by omega⟩ (show (x_35 : Int32).toInt = zTk fs sz.toInt (md.toInt - 2) (x_37.toInt - (md.toInt - 2)).toNat from by (rw [show (x_37.toInt - (md.toInt - 2)).toNat = (i_6.toInt - (md.toInt - 2)).toNat + 1 from by omega, zTk_s, show md.toInt - 2 + (((i_6.toInt - (md.toInt - 2)).toNat : Nat) : Int) = i_6.toInt from by omega]; rw [if_pos (by omega)]; have h8 : (fs i_6.toInt.toNat).toInt = x_34.toInt := (by rw [ex_34]; have z := hvi_6_1 i_6.toInt.toNat; rw [if_neg (by omega)] at z; exact congrArg Int32.toInt z.symm); omega)) (show (∀ j : Nat, g_36 j = (if md.toInt - 2 ≤ (j : Int) ∧ (j : Int) < x_37.toInt ∧ (j : Int) < sz.toInt then 0 else fs j)) from by (intro j; rw [hg_36]; simp only [upd]; have h7 : i_6.toNatClampNeg = i_6.toInt.toNat := rfl; by_cases e9 : j = i_6.toNatClampNeg; (rw [if_pos e9, if_pos (by omega)]); (rw [if_neg e9]; have z := hvi_6_1 j; rw [z]; by_cases c : md.toInt - 2 ≤ (j : Int) ∧ (j : Int) < i_6.toInt ∧ (j : Int) < sz.toInt; (rw [if_pos c, if_pos (by omega)]); (rw [if_neg c, if_neg (by omega)])))) (show md.toInt - 2 ≤ x_37.toInt ∧ x_37.toInt ≤ md.toInt + 3 ∧ (x_35 : Int32).toInt ≤ 9 * (x_37.toInt - (md.toInt - 2)) from by exact ⟨by omega, by omega, by omega⟩) (dw_lo hloi_6 qx_37) (dw_hn hni_6 qx_37)

