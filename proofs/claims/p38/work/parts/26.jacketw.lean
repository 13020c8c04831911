section
theorem gl_X0_setNumber_X00 : GoodIn wsX0_setNumber wsX00 := (dg_t (dg_t (dg_t (dg_t (dg_t (dg_t (dg_t (dg_t (dg_t (dg_t (dg_t (dg_l gw_wsX00))))))))))))
theorem hi_X0_setNumber_0 : ∀ w ∈ u_ws RX0 TX0 9, w ∈ wsX0_setNumber := fun w h => (gl_X0_setNumber_X00 w h).1
theorem gl_X0_setNumber_X60 : GoodIn wsX0_setNumber wsX60 := (dg_t (dg_t (dg_t (dg_t (dg_t (dg_t (dg_t (dg_t (dg_t (dg_t (dg_t (dg_r gw_wsX60))))))))))))
theorem hi_X0_setNumber_6 : ∀ w ∈ u_ws RX6 TX6 5, w ∈ wsX0_setNumber := fun w h => (gl_X0_setNumber_X60 w h).1
set_option maxHeartbeats 4000000 in
set_option maxRecDepth 100000 in
theorem c_J_setNumber (l : Launch) (D : va_G) (cI cJ cZ cP cS : ClassId) (po : zPool) (j0 jp jc z0 zl zs : Nat) (cn de tr se hu sd : Int32) (sz at_ gp : Int32) (fc : Nat → Int32) (w v : Int32) (hy0 : 0 ≤ cn.toInt) (hy1 : cn.toInt ≤ 8) (hy2 : 0 ≤ de.toInt) (hy3 : de.toInt ≤ 24) (hy4 : 0 ≤ hu.toInt) (hy5 : hu.toInt ≤ 9) (hy6 : 4 ≤ sz.toInt) (hy7 : sz.toInt ≤ 40) (hy8 : 0 ≤ at_.toInt) (hy9 : at_.toInt ≤ 40) (hy10 : 1 ≤ gp.toInt) (hy11 : gp.toInt ≤ 9) (hy12 : 0 ≤ w.toInt) (hy13 : w.toInt ≤ 7) (hset : (w.toInt = 0 → v.toInt ≤ 24) ∧ (w.toInt = 2 → v.toInt ≤ 9) ∧ (w.toInt = 3 → 1 ≤ v.toInt ∧ v.toInt ≤ 9) ∧ (w.toInt = 7 → v.toInt ≤ 40) ∧ (4 ≤ w.toInt → w.toInt ≤ 6 → v.toInt ≤ 99) ∧ 0 ≤ v.toInt) (hp_fc : zRg fc (0) 99) (hpz : Nat) : Met l yX0_setNumber wsX0_setNumber ({ frames := 1, cells := 0, slots := 0, locals := 22 }) (va_Pc [.ref j0, .int w, .int v] (zW D (zKT cI cJ cZ cP cS) po [(j0, .inr (0, [.ref z0, .ref jp, .ref jc, .int cn, .int de, .int tr, .int se, .int hu, .int sd])), (z0, .inr (6, [.ref zl, .ref zs, .int sz, .int at_, .int gp])), (jc, .inl (cI, 3, .inl fc))] hpz)) (va_Qv (fun (u : (Int32) × (Int32) × (Int32) × (Int32) × (Int32) × (Nat → Int32)) => (0 ≤ u.1.toInt ∧ u.1.toInt ≤ 24) ∧ (0 ≤ u.2.2.1.toInt ∧ u.2.2.1.toInt ≤ 9) ∧ (0 ≤ u.2.2.2.1.toInt ∧ u.2.2.2.1.toInt ≤ 40) ∧ (1 ≤ u.2.2.2.2.1.toInt ∧ u.2.2.2.2.1.toInt ≤ 9) ∧ zRg u.2.2.2.2.2 (0) 99 ∧ (True)) (zB D [(j0, .inr (0, [.ref z0, .ref jp, .ref jc, .int cn, .int de, .int tr, .int se, .int hu, .int sd])), (z0, .inr (6, [.ref zl, .ref zs, .int sz, .int at_, .int gp])), (jc, .inl (cI, 3, .inl fc))] hpz (fun (u : (Int32) × (Int32) × (Int32) × (Int32) × (Int32) × (Nat → Int32)) => [(j0, .inr (0, [.ref z0, .ref jp, .ref jc, .int cn, .int u.1, .int tr, .int u.2.1, .int u.2.2.1, .int sd])), (z0, .inr (6, [.ref zl, .ref zs, .int sz, .int u.2.2.2.1, .int u.2.2.2.2.1])), (jc, .inl (cI, 3, .inl u.2.2.2.2.2))])) (va_A [(j0, .inr (0, [.ref z0, .ref jp, .ref jc, .int cn, .int de, .int tr, .int se, .int hu, .int sd])), (z0, .inr (6, [.ref zl, .ref zs, .int sz, .int at_, .int gp])), (jc, .inl (cI, 3, .inl fc))] hpz)) 0 0 (va_A [(j0, .inr (0, [.ref z0, .ref jp, .ref jc, .int cn, .int de, .int tr, .int se, .int hu, .int sd])), (z0, .inr (6, [.ref zl, .ref zs, .int sz, .int at_, .int gp])), (jc, .inl (cI, 3, .inl fc))] hpz) := by
  refine Met.ofW (cc := cX0_setNumber) (maxL := 3) (ret := none) (by decide) rfl ?_
  intro p e s m args below meth c s₁ B hml hv
  obtain ⟨rfl, hsz, hP, hK, hD0, hN, hZ⟩ := hv
  have hx := B.exec
  have hb := B.bytes
  have hr := B.returns
  have hts := atoms_spec (ws := wsX0_setNumber) B.pre
  have hown : s.vm.findClass RX0 = some m.cls := findClass_of_methodNamed B.named
  have hlocks := B.notSynchronized
  subst hsz
  have hD := hD0.self (sz := s.heap.size)
  have hA := zA_of hD
  have hl := lv_entry ([.ref j0, .int w, .int v]) (n := 3) (Nat.le_of_ble_eq_true rfl)
  rw [lg_entry_eq]
  generalize (lg_sl ([.ref j0, .int w, .int v]) ++ List.replicate (3 - (lg_sl ([.ref j0, .int w, .int v])).length) Slot.unset).toArray = ls at hl ⊢
  replace hl : lv_has ls 3 [(0, .ref j0), (1, .int w), (2, .int v)] := hl
  refine zw_begin hP hD (fun H locs hP1 hS => ?_)
  clear hP
  have hP := hP1
  clear hP1
  refine lv_iload_n hx hb dX0_setNumber_0 rfl (lv_at hl 1 rfl) ?_
  have hsp : w = 0 ∨ w = 1 ∨ w = 2 ∨ w = 3 ∨ w = 4 ∨ w = 5 ∨ w = 6 ∨ w = 7 := by
    rcases (show w.toInt = 0 ∨ w.toInt = 1 ∨ w.toInt = 2 ∨ w.toInt = 3 ∨ w.toInt = 4 ∨ w.toInt = 5 ∨ w.toInt = 6 ∨ w.toInt = 7 by omega) with h9 | h9 | h9 | h9 | h9 | h9 | h9 | h9
    · refine Or.inl ?_; exact zf_val h9 (by decide)
    · refine Or.inr (Or.inl ?_); exact zf_val h9 (by decide)
    · refine Or.inr (Or.inr (Or.inl ?_)); exact zf_val h9 (by decide)
    · refine Or.inr (Or.inr (Or.inr (Or.inl ?_))); exact zf_val h9 (by decide)
    · refine Or.inr (Or.inr (Or.inr (Or.inr (Or.inl ?_)))); exact zf_val h9 (by decide)
    · refine Or.inr (Or.inr (Or.inr (Or.inr (Or.inr (Or.inl ?_))))); exact zf_val h9 (by decide)
    · refine Or.inr (Or.inr (Or.inr (Or.inr (Or.inr (Or.inr (Or.inl ?_)))))); exact zf_val h9 (by decide)
    · refine Or.inr (Or.inr (Or.inr (Or.inr (Or.inr (Or.inr (Or.inr (?_))))))); exact zf_val h9 (by decide)
  rcases hsp with rfl | rfl | rfl | rfl | rfl | rfl | rfl | rfl
  · have kc0 : (0 : Int32).toInt = 0 := by decide
    refine lv_tableIn (tgt := 48) hx hb dX0_setNumber_1 (by decide) (by decide) rfl (by decide) ?_
    refine lv_aload_n hx hb dX0_setNumber_48 rfl (lv_at hl 0 rfl) ?_
    refine lv_iload_n hx hb dX0_setNumber_49 rfl (lv_at hl 2 rfl) ?_
    refine va_put (D := D) (ci := 0) (v := .int v) (ty := .int) (C := RX0) (T := TX0) (N := 9) hx hb hts hi_X0_setNumber_0 tyX0 tyX0_ok nmX0 hown hK hP hD hS 0 rfl rfl 4 (by decide) (hts (.fieldLink RX0 32 "TheLiningsInIt$Jacket" "depth" "I") (List.mem_of_getElem? (i := 1) rfl)) (fun _ h9 => h9) rfl (tyX0_ok 4 (Nat.le_of_ble_eq_true rfl)) rfl rfl (Nat.le_of_ble_eq_true rfl) dX0_setNumber_50 (fun H locs hP hD hS => ?_)
    have h9R := zRe (ws' := [(j0, .inr (0, [.ref z0, .ref jp, .ref jc, .int cn, .int v, .int tr, .int se, .int hu, .int sd])), (z0, .inr (6, [.ref zl, .ref zs, .int sz, .int at_, .int gp])), (jc, .inl (cI, 3, .inl fc))]) hP hD rfl
    clear hP hD
    obtain ⟨hP, hD⟩ := h9R
    refine lv_goto (tgt := 114) hx hb dX0_setNumber_53 (by decide) ?_
    exact W.vret hx hb hr (fun t ht hW => ⟨⟨(v, se, hu, at_, gp, fc), rfl, ⟨(show 0 ≤ v.toInt ∧ v.toInt ≤ 24 from ⟨by omega, by omega⟩), (show 0 ≤ hu.toInt ∧ hu.toInt ≤ 9 from ⟨hy4, hy5⟩), (show 0 ≤ at_.toInt ∧ at_.toInt ≤ 40 from ⟨hy8, hy9⟩), (show 1 ≤ gp.toInt ∧ gp.toInt ≤ 9 from ⟨hy10, hy11⟩), hp_fc, trivial⟩, zRet ht hP hD [0, 1, 2] (by decide) rfl⟩, hS.F ht⟩) hS.2.2 dX0_setNumber_114
  · have kc1 : (1 : Int32).toInt = 1 := by decide
    refine lv_tableIn (tgt := 56) hx hb dX0_setNumber_1 (by decide) (by decide) rfl (by decide) ?_
    refine lv_aload_n hx hb dX0_setNumber_56 rfl (lv_at hl 0 rfl) ?_
    refine lv_iload_n hx hb dX0_setNumber_57 rfl (lv_at hl 2 rfl) ?_
    refine va_put (D := D) (ci := 0) (v := .int v) (ty := .int) (C := RX0) (T := TX0) (N := 9) hx hb hts hi_X0_setNumber_0 tyX0 tyX0_ok nmX0 hown hK hP hD hS 0 rfl rfl 6 (by decide) (hts (.fieldLink RX0 38 "TheLiningsInIt$Jacket" "seconds" "I") (List.mem_of_getElem? (i := 2) rfl)) (fun _ h9 => h9) rfl (tyX0_ok 6 (Nat.le_of_ble_eq_true rfl)) rfl rfl (Nat.le_of_ble_eq_true rfl) dX0_setNumber_58 (fun H locs hP hD hS => ?_)
    have h9R := zRe (ws' := [(j0, .inr (0, [.ref z0, .ref jp, .ref jc, .int cn, .int de, .int tr, .int v, .int hu, .int sd])), (z0, .inr (6, [.ref zl, .ref zs, .int sz, .int at_, .int gp])), (jc, .inl (cI, 3, .inl fc))]) hP hD rfl
    clear hP hD
    obtain ⟨hP, hD⟩ := h9R
    refine lv_goto (tgt := 114) hx hb dX0_setNumber_61 (by decide) ?_
    exact W.vret hx hb hr (fun t ht hW => ⟨⟨(de, v, hu, at_, gp, fc), rfl, ⟨(show 0 ≤ de.toInt ∧ de.toInt ≤ 24 from ⟨hy2, hy3⟩), (show 0 ≤ hu.toInt ∧ hu.toInt ≤ 9 from ⟨hy4, hy5⟩), (show 0 ≤ at_.toInt ∧ at_.toInt ≤ 40 from ⟨hy8, hy9⟩), (show 1 ≤ gp.toInt ∧ gp.toInt ≤ 9 from ⟨hy10, hy11⟩), hp_fc, trivial⟩, zRet ht hP hD [0, 1, 2] (by decide) rfl⟩, hS.F ht⟩) hS.2.2 dX0_setNumber_114
  · have kc2 : (2 : Int32).toInt = 2 := by decide
    refine lv_tableIn (tgt := 64) hx hb dX0_setNumber_1 (by decide) (by decide) rfl (by decide) ?_
    refine lv_aload_n hx hb dX0_setNumber_64 rfl (lv_at hl 0 rfl) ?_
    refine lv_iload_n hx hb dX0_setNumber_65 rfl (lv_at hl 2 rfl) ?_
    refine va_put (D := D) (ci := 0) (v := .int v) (ty := .int) (C := RX0) (T := TX0) (N := 9) hx hb hts hi_X0_setNumber_0 tyX0 tyX0_ok nmX0 hown hK hP hD hS 0 rfl rfl 7 (by decide) (hts (.fieldLink RX0 41 "TheLiningsInIt$Jacket" "hurry" "I") (List.mem_of_getElem? (i := 3) rfl)) (fun _ h9 => h9) rfl (tyX0_ok 7 (Nat.le_of_ble_eq_true rfl)) rfl rfl (Nat.le_of_ble_eq_true rfl) dX0_setNumber_66 (fun H locs hP hD hS => ?_)
    have h9R := zRe (ws' := [(j0, .inr (0, [.ref z0, .ref jp, .ref jc, .int cn, .int de, .int tr, .int se, .int v, .int sd])), (z0, .inr (6, [.ref zl, .ref zs, .int sz, .int at_, .int gp])), (jc, .inl (cI, 3, .inl fc))]) hP hD rfl
    clear hP hD
    obtain ⟨hP, hD⟩ := h9R
    refine lv_goto (tgt := 114) hx hb dX0_setNumber_69 (by decide) ?_
    exact W.vret hx hb hr (fun t ht hW => ⟨⟨(de, se, v, at_, gp, fc), rfl, ⟨(show 0 ≤ de.toInt ∧ de.toInt ≤ 24 from ⟨hy2, hy3⟩), (show 0 ≤ v.toInt ∧ v.toInt ≤ 9 from ⟨by omega, by omega⟩), (show 0 ≤ at_.toInt ∧ at_.toInt ≤ 40 from ⟨hy8, hy9⟩), (show 1 ≤ gp.toInt ∧ gp.toInt ≤ 9 from ⟨hy10, hy11⟩), hp_fc, trivial⟩, zRet ht hP hD [0, 1, 2] (by decide) rfl⟩, hS.F ht⟩) hS.2.2 dX0_setNumber_114
  · have kc3 : (3 : Int32).toInt = 3 := by decide
    refine lv_tableIn (tgt := 72) hx hb dX0_setNumber_1 (by decide) (by decide) rfl (by decide) ?_
    refine lv_aload_n hx hb dX0_setNumber_72 rfl (lv_at hl 0 rfl) ?_
    refine va_get (D := D) (ci := 0) (v := .ref z0) (C := RX0) (T := TX0) (N := 9) hx hb hts hi_X0_setNumber_0 hown hK hP 0 rfl rfl 0 (by decide) (hts (.fieldLink RX0 12 "TheLiningsInIt$Jacket" "zip" "LTheLiningsInIt$Zip;") (List.mem_of_getElem? (i := 4) rfl)) (fun _ h9 => h9) rfl dX0_setNumber_73 ?_
    refine lv_iload_n hx hb dX0_setNumber_76 rfl (lv_at hl 2 rfl) ?_
    refine va_put (D := D) (ci := 6) (v := .int v) (ty := .int) (C := RX6) (T := TX6) (N := 5) hx hb hts hi_X0_setNumber_6 tyX6 tyX6_ok nmX6 hown hK hP hD hS 1 rfl rfl 4 (by decide) (hts (.fieldLink RX0 60 "TheLiningsInIt$Zip" "gap" "I") (List.mem_of_getElem? (i := 5) rfl)) (fun _ h9 => h9) rfl (tyX6_ok 4 (Nat.le_of_ble_eq_true rfl)) rfl rfl (Nat.le_of_ble_eq_true rfl) dX0_setNumber_77 (fun H locs hP hD hS => ?_)
    have h9R := zRe (ws' := [(j0, .inr (0, [.ref z0, .ref jp, .ref jc, .int cn, .int de, .int tr, .int se, .int hu, .int sd])), (z0, .inr (6, [.ref zl, .ref zs, .int sz, .int at_, .int v])), (jc, .inl (cI, 3, .inl fc))]) hP hD rfl
    clear hP hD
    obtain ⟨hP, hD⟩ := h9R
    refine lv_goto (tgt := 114) hx hb dX0_setNumber_80 (by decide) ?_
    exact W.vret hx hb hr (fun t ht hW => ⟨⟨(de, se, hu, at_, v, fc), rfl, ⟨(show 0 ≤ de.toInt ∧ de.toInt ≤ 24 from ⟨hy2, hy3⟩), (show 0 ≤ hu.toInt ∧ hu.toInt ≤ 9 from ⟨hy4, hy5⟩), (show 0 ≤ at_.toInt ∧ at_.toInt ≤ 40 from ⟨hy8, hy9⟩), (show 1 ≤ v.toInt ∧ v.toInt ≤ 9 from ⟨by omega, by omega⟩), hp_fc, trivial⟩, zRet ht hP hD [0, 1, 2] (by decide) rfl⟩, hS.F ht⟩) hS.2.2 dX0_setNumber_114
  · have kc4 : (4 : Int32).toInt = 4 := by decide
    refine lv_tableIn (tgt := 94) hx hb dX0_setNumber_1 (by decide) (by decide) rfl (by decide) ?_
    refine lv_iload_n hx hb dX0_setNumber_94 rfl (lv_at hl 1 rfl) ?_
    refine lv_iconst (v := 4) hx hb dX0_setNumber_95 (by decide) ?_
    refine lv_isub hx hb dX0_setNumber_96 ?_
    refine lv_topi (fun y_1 ey_1 => ?_)
    obtain rfl : y_1 = 0 := ey_1.trans (by decide)
    refine lv_iconst (v := 0) hx hb dX0_setNumber_97 (by decide) ?_
    refine lv_iconst (v := 2) hx hb dX0_setNumber_98 (by decide) ?_
    have kc0 : (0 : Int32).toInt = 0 := by decide
    have kc2 : (2 : Int32).toInt = 2 := by decide
    refine zc_SN (As := [.int 0, .int 0, .int 2]) (rest := []) ⟨hx, hb, hml, hown, hts⟩ (c_within l D cI cJ cZ cP cS po (0) (0) (2) ) ⟨(va_cnB 3 hts gX0_setNumber_X7_within_n66 rfl rfl rfl (hN.1 (RX0, 66, yX7_within) (List.mem_of_getElem? (i := 6) rfl)) (hts _ (List.mem_of_getElem? (i := 9) rfl)) dh_X7_within ⟨Nat.le_of_ble_eq_true rfl, Nat.le_of_ble_eq_true rfl⟩), (hts _ (List.mem_of_getElem? (i := 8) rfl)), trivial⟩ hK hN (hZ.kept hS) rfl hl.1 rfl (Nat.le_of_ble_eq_true rfl) dX0_setNumber_99 ⟨Nat.le_of_ble_eq_true rfl, Nat.le_of_ble_eq_true rfl⟩ (fun r_2 hr_2 => ?_)
    rcases hr_2 with ⟨rfl, g_3⟩ | ⟨rfl, g_4, g_5⟩ | ⟨rfl, g_6, g_7⟩
    · exfalso; omega
    · exfalso; omega
    · refine lv_if_eq (tgt := 114) hx hb dX0_setNumber_102 (by decide) (fun c_8 => ?_) (fun c_8 => ?_)
      · exact absurd c_8 (by decide)
      · refine lv_aload_n hx hb dX0_setNumber_105 rfl (lv_at hl 0 rfl) ?_
        refine va_get (D := D) (ci := 0) (v := .ref jc) (C := RX0) (T := TX0) (N := 9) hx hb hts hi_X0_setNumber_0 hown hK hP 0 rfl rfl 2 (by decide) (hts (.fieldLink RX0 24 "TheLiningsInIt$Jacket" "costs" "[I") (List.mem_of_getElem? (i := 7) rfl)) (fun _ h9 => h9) rfl dX0_setNumber_106 ?_
        refine lv_iload_n hx hb dX0_setNumber_109 rfl (lv_at hl 1 rfl) ?_
        refine lv_iconst (v := 4) hx hb dX0_setNumber_110 (by decide) ?_
        refine lv_isub hx hb dX0_setNumber_111 ?_
        refine lv_topi (fun y_9 ey_9 => ?_)
        obtain rfl : y_9 = 0 := ey_9.trans (by decide)
        refine lv_iload_n hx hb dX0_setNumber_112 rfl (lv_at hl 2 rfl) ?_
        refine va_iast hx hb hK hP hD hS 2 0 rfl rfl (zf_in (by decide) (by decide)) dX0_setNumber_113 (fun H locs hP hD hS => ?_)
        have hpg_10 : zRg (upd fc (0 : Int32).toNatClampNeg v) (0) 99 := zRg_upd hp_fc (by omega) (by omega)
        obtain ⟨g_10, hg_10⟩ : ∃ g : Nat → Int32, g = upd fc (0 : Int32).toNatClampNeg v := ⟨_, rfl⟩
        rw [← hg_10] at hP hD hpg_10
        clear hg_10
        have h9R := zRe (ws' := [(j0, .inr (0, [.ref z0, .ref jp, .ref jc, .int cn, .int de, .int tr, .int se, .int hu, .int sd])), (z0, .inr (6, [.ref zl, .ref zs, .int sz, .int at_, .int gp])), (jc, .inl (cI, 3, .inl g_10))]) hP hD rfl
        clear hP hD
        obtain ⟨hP, hD⟩ := h9R
        exact W.vret hx hb hr (fun t ht hW => ⟨⟨(de, se, hu, at_, gp, g_10), rfl, ⟨(show 0 ≤ de.toInt ∧ de.toInt ≤ 24 from ⟨hy2, hy3⟩), (show 0 ≤ hu.toInt ∧ hu.toInt ≤ 9 from ⟨hy4, hy5⟩), (show 0 ≤ at_.toInt ∧ at_.toInt ≤ 40 from ⟨hy8, hy9⟩), (show 1 ≤ gp.toInt ∧ gp.toInt ≤ 9 from ⟨hy10, hy11⟩), hpg_10, trivial⟩, zRet ht hP hD [0, 1, 2] (by decide) rfl⟩, hS.F ht⟩) hS.2.2 dX0_setNumber_114
  · have kc5 : (5 : Int32).toInt = 5 := by decide
    refine lv_tableIn (tgt := 94) hx hb dX0_setNumber_1 (by decide) (by decide) rfl (by decide) ?_
    refine lv_iload_n hx hb dX0_setNumber_94 rfl (lv_at hl 1 rfl) ?_
    refine lv_iconst (v := 4) hx hb dX0_setNumber_95 (by decide) ?_
    refine lv_isub hx hb dX0_setNumber_96 ?_
    refine lv_topi (fun y_11 ey_11 => ?_)
    obtain rfl : y_11 = 1 := ey_11.trans (by decide)
    refine lv_iconst (v := 0) hx hb dX0_setNumber_97 (by decide) ?_
    refine lv_iconst (v := 2) hx hb dX0_setNumber_98 (by decide) ?_
    have kc1 : (1 : Int32).toInt = 1 := by decide
    have kc0 : (0 : Int32).toInt = 0 := by decide
    have kc2 : (2 : Int32).toInt = 2 := by decide
    refine zc_SN (As := [.int 1, .int 0, .int 2]) (rest := []) ⟨hx, hb, hml, hown, hts⟩ (c_within l D cI cJ cZ cP cS po (1) (0) (2) ) ⟨(va_cnB 3 hts gX0_setNumber_X7_within_n66 rfl rfl rfl (hN.1 (RX0, 66, yX7_within) (List.mem_of_getElem? (i := 6) rfl)) (hts _ (List.mem_of_getElem? (i := 9) rfl)) dh_X7_within ⟨Nat.le_of_ble_eq_true rfl, Nat.le_of_ble_eq_true rfl⟩), (hts _ (List.mem_of_getElem? (i := 8) rfl)), trivial⟩ hK hN (hZ.kept hS) rfl hl.1 rfl (Nat.le_of_ble_eq_true rfl) dX0_setNumber_99 ⟨Nat.le_of_ble_eq_true rfl, Nat.le_of_ble_eq_true rfl⟩ (fun r_12 hr_12 => ?_)
    rcases hr_12 with ⟨rfl, g_13⟩ | ⟨rfl, g_14, g_15⟩ | ⟨rfl, g_16, g_17⟩
    · exfalso; omega
    · exfalso; omega
    · refine lv_if_eq (tgt := 114) hx hb dX0_setNumber_102 (by decide) (fun c_18 => ?_) (fun c_18 => ?_)
      · exact absurd c_18 (by decide)
      · refine lv_aload_n hx hb dX0_setNumber_105 rfl (lv_at hl 0 rfl) ?_
        refine va_get (D := D) (ci := 0) (v := .ref jc) (C := RX0) (T := TX0) (N := 9) hx hb hts hi_X0_setNumber_0 hown hK hP 0 rfl rfl 2 (by decide) (hts (.fieldLink RX0 24 "TheLiningsInIt$Jacket" "costs" "[I") (List.mem_of_getElem? (i := 7) rfl)) (fun _ h9 => h9) rfl dX0_setNumber_106 ?_
        refine lv_iload_n hx hb dX0_setNumber_109 rfl (lv_at hl 1 rfl) ?_
        refine lv_iconst (v := 4) hx hb dX0_setNumber_110 (by decide) ?_
        refine lv_isub hx hb dX0_setNumber_111 ?_
        refine lv_topi (fun y_19 ey_19 => ?_)
        obtain rfl : y_19 = 1 := ey_19.trans (by decide)
        refine lv_iload_n hx hb dX0_setNumber_112 rfl (lv_at hl 2 rfl) ?_
        refine va_iast hx hb hK hP hD hS 2 0 rfl rfl (zf_in (by decide) (by decide)) dX0_setNumber_113 (fun H locs hP hD hS => ?_)
        have hpg_20 : zRg (upd fc (1 : Int32).toNatClampNeg v) (0) 99 := zRg_upd hp_fc (by omega) (by omega)
        obtain ⟨g_20, hg_20⟩ : ∃ g : Nat → Int32, g = upd fc (1 : Int32).toNatClampNeg v := ⟨_, rfl⟩
        rw [← hg_20] at hP hD hpg_20
        clear hg_20
        have h9R := zRe (ws' := [(j0, .inr (0, [.ref z0, .ref jp, .ref jc, .int cn, .int de, .int tr, .int se, .int hu, .int sd])), (z0, .inr (6, [.ref zl, .ref zs, .int sz, .int at_, .int gp])), (jc, .inl (cI, 3, .inl g_20))]) hP hD rfl
        clear hP hD
        obtain ⟨hP, hD⟩ := h9R
        exact W.vret hx hb hr (fun t ht hW => ⟨⟨(de, se, hu, at_, gp, g_20), rfl, ⟨(show 0 ≤ de.toInt ∧ de.toInt ≤ 24 from ⟨hy2, hy3⟩), (show 0 ≤ hu.toInt ∧ hu.toInt ≤ 9 from ⟨hy4, hy5⟩), (show 0 ≤ at_.toInt ∧ at_.toInt ≤ 40 from ⟨hy8, hy9⟩), (show 1 ≤ gp.toInt ∧ gp.toInt ≤ 9 from ⟨hy10, hy11⟩), hpg_20, trivial⟩, zRet ht hP hD [0, 1, 2] (by decide) rfl⟩, hS.F ht⟩) hS.2.2 dX0_setNumber_114
  · have kc6 : (6 : Int32).toInt = 6 := by decide
    refine lv_tableIn (tgt := 94) hx hb dX0_setNumber_1 (by decide) (by decide) rfl (by decide) ?_
    refine lv_iload_n hx hb dX0_setNumber_94 rfl (lv_at hl 1 rfl) ?_
    refine lv_iconst (v := 4) hx hb dX0_setNumber_95 (by decide) ?_
    refine lv_isub hx hb dX0_setNumber_96 ?_
    refine lv_topi (fun y_21 ey_21 => ?_)
    obtain rfl : y_21 = 2 := ey_21.trans (by decide)
    refine lv_iconst (v := 0) hx hb dX0_setNumber_97 (by decide) ?_
    refine lv_iconst (v := 2) hx hb dX0_setNumber_98 (by decide) ?_
    have kc2 : (2 : Int32).toInt = 2 := by decide
    have kc0 : (0 : Int32).toInt = 0 := by decide
    refine zc_SN (As := [.int 2, .int 0, .int 2]) (rest := []) ⟨hx, hb, hml, hown, hts⟩ (c_within l D cI cJ cZ cP cS po (2) (0) (2) ) ⟨(va_cnB 3 hts gX0_setNumber_X7_within_n66 rfl rfl rfl (hN.1 (RX0, 66, yX7_within) (List.mem_of_getElem? (i := 6) rfl)) (hts _ (List.mem_of_getElem? (i := 9) rfl)) dh_X7_within ⟨Nat.le_of_ble_eq_true rfl, Nat.le_of_ble_eq_true rfl⟩), (hts _ (List.mem_of_getElem? (i := 8) rfl)), trivial⟩ hK hN (hZ.kept hS) rfl hl.1 rfl (Nat.le_of_ble_eq_true rfl) dX0_setNumber_99 ⟨Nat.le_of_ble_eq_true rfl, Nat.le_of_ble_eq_true rfl⟩ (fun r_22 hr_22 => ?_)
    rcases hr_22 with ⟨rfl, g_23⟩ | ⟨rfl, g_24, g_25⟩ | ⟨rfl, g_26, g_27⟩
    · exfalso; omega
    · exfalso; omega
    · refine lv_if_eq (tgt := 114) hx hb dX0_setNumber_102 (by decide) (fun c_28 => ?_) (fun c_28 => ?_)
      · exact absurd c_28 (by decide)
      · refine lv_aload_n hx hb dX0_setNumber_105 rfl (lv_at hl 0 rfl) ?_
        refine va_get (D := D) (ci := 0) (v := .ref jc) (C := RX0) (T := TX0) (N := 9) hx hb hts hi_X0_setNumber_0 hown hK hP 0 rfl rfl 2 (by decide) (hts (.fieldLink RX0 24 "TheLiningsInIt$Jacket" "costs" "[I") (List.mem_of_getElem? (i := 7) rfl)) (fun _ h9 => h9) rfl dX0_setNumber_106 ?_
        refine lv_iload_n hx hb dX0_setNumber_109 rfl (lv_at hl 1 rfl) ?_
        refine lv_iconst (v := 4) hx hb dX0_setNumber_110 (by decide) ?_
        refine lv_isub hx hb dX0_setNumber_111 ?_
        refine lv_topi (fun y_29 ey_29 => ?_)
        obtain rfl : y_29 = 2 := ey_29.trans (by decide)
        refine lv_iload_n hx hb dX0_setNumber_112 rfl (lv_at hl 2 rfl) ?_
        refine va_iast hx hb hK hP hD hS 2 0 rfl rfl (zf_in (by decide) (by decide)) dX0_setNumber_113 (fun H locs hP hD hS => ?_)
        have hpg_30 : zRg (upd fc (2 : Int32).toNatClampNeg v) (0) 99 := zRg_upd hp_fc (by omega) (by omega)
        obtain ⟨g_30, hg_30⟩ : ∃ g : Nat → Int32, g = upd fc (2 : Int32).toNatClampNeg v := ⟨_, rfl⟩
        rw [← hg_30] at hP hD hpg_30
        clear hg_30
        have h9R := zRe (ws' := [(j0, .inr (0, [.ref z0, .ref jp, .ref jc, .int cn, .int de, .int tr, .int se, .int hu, .int sd])), (z0, .inr (6, [.ref zl, .ref zs, .int sz, .int at_, .int gp])), (jc, .inl (cI, 3, .inl g_30))]) hP hD rfl
        clear hP hD
        obtain ⟨hP, hD⟩ := h9R
        exact W.vret hx hb hr (fun t ht hW => ⟨⟨(de, se, hu, at_, gp, g_30), rfl, ⟨(show 0 ≤ de.toInt ∧ de.toInt ≤ 24 from ⟨hy2, hy3⟩), (show 0 ≤ hu.toInt ∧ hu.toInt ≤ 9 from ⟨hy4, hy5⟩), (show 0 ≤ at_.toInt ∧ at_.toInt ≤ 40 from ⟨hy8, hy9⟩), (show 1 ≤ gp.toInt ∧ gp.toInt ≤ 9 from ⟨hy10, hy11⟩), hpg_30, trivial⟩, zRet ht hP hD [0, 1, 2] (by decide) rfl⟩, hS.F ht⟩) hS.2.2 dX0_setNumber_114
  · have kc7 : (7 : Int32).toInt = 7 := by decide
    refine lv_tableIn (tgt := 83) hx hb dX0_setNumber_1 (by decide) (by decide) rfl (by decide) ?_
    refine lv_aload_n hx hb dX0_setNumber_83 rfl (lv_at hl 0 rfl) ?_
    refine va_get (D := D) (ci := 0) (v := .ref z0) (C := RX0) (T := TX0) (N := 9) hx hb hts hi_X0_setNumber_0 hown hK hP 0 rfl rfl 0 (by decide) (hts (.fieldLink RX0 12 "TheLiningsInIt$Jacket" "zip" "LTheLiningsInIt$Zip;") (List.mem_of_getElem? (i := 4) rfl)) (fun _ h9 => h9) rfl dX0_setNumber_84 ?_
    refine lv_iload_n hx hb dX0_setNumber_87 rfl (lv_at hl 2 rfl) ?_
    refine va_put (D := D) (ci := 6) (v := .int v) (ty := .int) (C := RX6) (T := TX6) (N := 5) hx hb hts hi_X0_setNumber_6 tyX6 tyX6_ok nmX6 hown hK hP hD hS 1 rfl rfl 3 (by decide) (hts (.fieldLink RX0 63 "TheLiningsInIt$Zip" "at" "I") (List.mem_of_getElem? (i := 6) rfl)) (fun _ h9 => h9) rfl (tyX6_ok 3 (Nat.le_of_ble_eq_true rfl)) rfl rfl (Nat.le_of_ble_eq_true rfl) dX0_setNumber_88 (fun H locs hP hD hS => ?_)
    have h9R := zRe (ws' := [(j0, .inr (0, [.ref z0, .ref jp, .ref jc, .int cn, .int de, .int tr, .int se, .int hu, .int sd])), (z0, .inr (6, [.ref zl, .ref zs, .int sz, .int v, .int gp])), (jc, .inl (cI, 3, .inl fc))]) hP hD rfl
    clear hP hD
    obtain ⟨hP, hD⟩ := h9R
    refine lv_goto (tgt := 114) hx hb dX0_setNumber_91 (by decide) ?_
    exact W.vret hx hb hr (fun t ht hW => ⟨⟨(de, se, hu, v, gp, fc), rfl, ⟨(show 0 ≤ de.toInt ∧ de.toInt ≤ 24 from ⟨hy2, hy3⟩), (show 0 ≤ hu.toInt ∧ hu.toInt ≤ 9 from ⟨hy4, hy5⟩), (show 0 ≤ v.toInt ∧ v.toInt ≤ 40 from ⟨by omega, by omega⟩), (show 1 ≤ gp.toInt ∧ gp.toInt ≤ 9 from ⟨hy10, hy11⟩), hp_fc, trivial⟩, zRet ht hP hD [0, 1, 2] (by decide) rfl⟩, hS.F ht⟩) hS.2.2 dX0_setNumber_114
theorem gl_X0_draw_X00 : GoodIn wsX0_draw wsX00 := (dg_t (dg_t (dg_t gw_wsX00)))
theorem hi_X0_draw_0 : ∀ w ∈ u_ws RX0 TX0 9, w ∈ wsX0_draw := fun w h => (gl_X0_draw_X00 w h).1
set_option maxHeartbeats 4000000 in
set_option maxRecDepth 100000 in
theorem c_J_draw_6 (l : Launch) (D : va_G) (cI cJ cZ cP cS : ClassId) (po : zPool) (j0 jp jc z0 zl zs : Nat) (cn de tr se hu sd : Int32) (hy0 : 0 ≤ cn.toInt) (hy1 : cn.toInt ≤ 8) (hy2 : 0 ≤ de.toInt) (hy3 : de.toInt ≤ 24) (hy4 : 0 ≤ hu.toInt) (hy5 : hu.toInt ≤ 9) (hpz : Nat) : Met l yX0_draw wsX0_draw ({ frames := 0, cells := 0, slots := 0, locals := 0 }) (va_Pc [.ref j0, .int 6] (zW D (zKT cI cJ cZ cP cS) po [(j0, .inr (0, [.ref z0, .ref jp, .ref jc, .int cn, .int de, .int tr, .int se, .int hu, .int sd]))] hpz)) (va_Qi (fun (r : Int32) (sd2 : (Int32)) => 0 ≤ r.toInt ∧ r.toInt ≤ 5) (zB D [(j0, .inr (0, [.ref z0, .ref jp, .ref jc, .int cn, .int de, .int tr, .int se, .int hu, .int sd]))] hpz (fun (sd2 : Int32) => [(j0, .inr (0, [.ref z0, .ref jp, .ref jc, .int cn, .int de, .int tr, .int se, .int hu, .int sd2]))])) (va_A [(j0, .inr (0, [.ref z0, .ref jp, .ref jc, .int cn, .int de, .int tr, .int se, .int hu, .int sd]))] hpz)) 0 0 (va_A [(j0, .inr (0, [.ref z0, .ref jp, .ref jc, .int cn, .int de, .int tr, .int se, .int hu, .int sd]))] hpz) := by
  refine Met.ofW (cc := cX0_draw) (maxL := 2) (ret := (some .int)) (by decide) rfl ?_
  intro p e s m args below meth c s₁ B hml hv
  obtain ⟨rfl, hsz, hP, hK, hD0, hN, hZ⟩ := hv
  have hx := B.exec
  have hb := B.bytes
  have hr := B.returns
  have hts := atoms_spec (ws := wsX0_draw) B.pre
  have hown : s.vm.findClass RX0 = some m.cls := findClass_of_methodNamed B.named
  have hlocks := B.notSynchronized
  subst hsz
  have hD := hD0.self (sz := s.heap.size)
  have hA := zA_of hD
  have hl := lv_entry ([.ref j0, .int 6]) (n := 2) (Nat.le_of_ble_eq_true rfl)
  rw [lg_entry_eq]
  generalize (lg_sl ([.ref j0, .int 6]) ++ List.replicate (2 - (lg_sl ([.ref j0, .int 6])).length) Slot.unset).toArray = ls at hl ⊢
  replace hl : lv_has ls 2 [(0, .ref j0), (1, .int 6)] := hl
  refine zw_begin hP hD (fun H locs hP1 hS => ?_)
  clear hP
  have hP := hP1
  clear hP1
  refine lv_aload_n hx hb dX0_draw_0 rfl (lv_at hl 0 rfl) ?_
  refine lv_aload_n hx hb dX0_draw_1 rfl (lv_at hl 0 rfl) ?_
  refine va_get (D := D) (ci := 0) (v := .int sd) (C := RX0) (T := TX0) (N := 9) hx hb hts hi_X0_draw_0 hown hK hP 0 rfl rfl 8 (by decide) (hts (.fieldLink RX0 44 "TheLiningsInIt$Jacket" "seedNow" "I") (List.mem_of_getElem? (i := 1) rfl)) (fun _ h9 => h9) rfl dX0_draw_2 ?_
  refine lv_ldc (own := RX0) (v := 1103515245) hx hb hown (hts _ (List.mem_of_getElem? (i := 2) rfl)) dX0_draw_5 ?_
  refine lv_imul hx hb dX0_draw_7 ?_
  refine lv_topi (fun x_1 ex_1 => ?_)
  refine lv_sipush (v := 12345) hx hb dX0_draw_8 (by decide) ?_
  refine lv_iadd hx hb dX0_draw_11 ?_
  refine lv_topi (fun x_2 ex_2 => ?_)
  refine va_put (D := D) (ci := 0) (v := .int x_2) (ty := .int) (C := RX0) (T := TX0) (N := 9) hx hb hts hi_X0_draw_0 tyX0 tyX0_ok nmX0 hown hK hP hD hS 0 rfl rfl 8 (by decide) (hts (.fieldLink RX0 44 "TheLiningsInIt$Jacket" "seedNow" "I") (List.mem_of_getElem? (i := 1) rfl)) (fun _ h9 => h9) rfl (tyX0_ok 8 (Nat.le_of_ble_eq_true rfl)) rfl rfl (Nat.le_of_ble_eq_true rfl) dX0_draw_12 (fun H locs hP hD hS => ?_)
  have h9R := zRe (ws' := [(j0, .inr (0, [.ref z0, .ref jp, .ref jc, .int cn, .int de, .int tr, .int se, .int hu, .int x_2]))]) hP hD rfl
  clear hP hD
  obtain ⟨hP, hD⟩ := h9R
  refine lv_iload_n hx hb dX0_draw_15 rfl (lv_at hl 1 rfl) ?_
  refine lv_iconst (v := 1) hx hb dX0_draw_16 (by decide) ?_
  refine lv_icmp_ge (tgt := 24) hx hb dX0_draw_17 (by decide) (fun c_3 => ?_) (fun c_3 => ?_)
  · refine lv_aload_n hx hb dX0_draw_24 rfl (lv_at hl 0 rfl) ?_
    refine va_get (D := D) (ci := 0) (v := .int x_2) (C := RX0) (T := TX0) (N := 9) hx hb hts hi_X0_draw_0 hown hK hP 0 rfl rfl 8 (by decide) (hts (.fieldLink RX0 44 "TheLiningsInIt$Jacket" "seedNow" "I") (List.mem_of_getElem? (i := 1) rfl)) (fun _ h9 => h9) rfl dX0_draw_25 ?_
    refine lv_bipush (v := 16) hx hb dX0_draw_28 (by decide) ?_
    refine lv_iushr hx hb dX0_draw_30 rfl ?_
    refine lv_topi (fun x_4 ex_4 => ?_)
    have bx_4 : 0 ≤ x_4.toInt ∧ x_4.toInt ≤ 65535 := by rw [ex_4]; exact zf_ushr
    refine lv_iload_n hx hb dX0_draw_31 rfl (lv_at hl 1 rfl) ?_
    refine lv_irem hx hb dX0_draw_32 (by decide) ?_
    refine lv_topi (fun x_5 ex_5 => ?_)
    have qx_5 : x_5.toInt = x_4.toInt - x_4.toInt / 6 * 6 := by rw [ex_5]; exact zf_rem rfl (by decide) (by omega) (by omega)
    exact W.iret (v := x_5) hx hb hr (fun t ht hW => ⟨⟨x_5, x_2, rfl, ⟨by omega, by omega⟩, zRet ht hP hD [0] (by decide) rfl⟩, hS.F ht⟩) hS.2.2 dX0_draw_33
  · exact absurd c_3 (by decide)
set_option maxHeartbeats 4000000 in
set_option maxRecDepth 100000 in
theorem c_J_draw_10 (l : Launch) (D : va_G) (cI cJ cZ cP cS : ClassId) (po : zPool) (j0 jp jc z0 zl zs : Nat) (cn de tr se hu sd : Int32) (hy0 : 0 ≤ cn.toInt) (hy1 : cn.toInt ≤ 8) (hy2 : 0 ≤ de.toInt) (hy3 : de.toInt ≤ 24) (hy4 : 0 ≤ hu.toInt) (hy5 : hu.toInt ≤ 9) (hpz : Nat) : Met l yX0_draw wsX0_draw ({ frames := 0, cells := 0, slots := 0, locals := 0 }) (va_Pc [.ref j0, .int 10] (zW D (zKT cI cJ cZ cP cS) po [(j0, .inr (0, [.ref z0, .ref jp, .ref jc, .int cn, .int de, .int tr, .int se, .int hu, .int sd]))] hpz)) (va_Qi (fun (r : Int32) (sd2 : (Int32)) => 0 ≤ r.toInt ∧ r.toInt ≤ 9) (zB D [(j0, .inr (0, [.ref z0, .ref jp, .ref jc, .int cn, .int de, .int tr, .int se, .int hu, .int sd]))] hpz (fun (sd2 : Int32) => [(j0, .inr (0, [.ref z0, .ref jp, .ref jc, .int cn, .int de, .int tr, .int se, .int hu, .int sd2]))])) (va_A [(j0, .inr (0, [.ref z0, .ref jp, .ref jc, .int cn, .int de, .int tr, .int se, .int hu, .int sd]))] hpz)) 0 0 (va_A [(j0, .inr (0, [.ref z0, .ref jp, .ref jc, .int cn, .int de, .int tr, .int se, .int hu, .int sd]))] hpz) := by
  refine Met.ofW (cc := cX0_draw) (maxL := 2) (ret := (some .int)) (by decide) rfl ?_
  intro p e s m args below meth c s₁ B hml hv
  obtain ⟨rfl, hsz, hP, hK, hD0, hN, hZ⟩ := hv
  have hx := B.exec
  have hb := B.bytes
  have hr := B.returns
  have hts := atoms_spec (ws := wsX0_draw) B.pre
  have hown : s.vm.findClass RX0 = some m.cls := findClass_of_methodNamed B.named
  have hlocks := B.notSynchronized
  subst hsz
  have hD := hD0.self (sz := s.heap.size)
  have hA := zA_of hD
  have hl := lv_entry ([.ref j0, .int 10]) (n := 2) (Nat.le_of_ble_eq_true rfl)
  rw [lg_entry_eq]
  generalize (lg_sl ([.ref j0, .int 10]) ++ List.replicate (2 - (lg_sl ([.ref j0, .int 10])).length) Slot.unset).toArray = ls at hl ⊢
  replace hl : lv_has ls 2 [(0, .ref j0), (1, .int 10)] := hl
  refine zw_begin hP hD (fun H locs hP1 hS => ?_)
  clear hP
  have hP := hP1
  clear hP1
  refine lv_aload_n hx hb dX0_draw_0 rfl (lv_at hl 0 rfl) ?_
  refine lv_aload_n hx hb dX0_draw_1 rfl (lv_at hl 0 rfl) ?_
  refine va_get (D := D) (ci := 0) (v := .int sd) (C := RX0) (T := TX0) (N := 9) hx hb hts hi_X0_draw_0 hown hK hP 0 rfl rfl 8 (by decide) (hts (.fieldLink RX0 44 "TheLiningsInIt$Jacket" "seedNow" "I") (List.mem_of_getElem? (i := 1) rfl)) (fun _ h9 => h9) rfl dX0_draw_2 ?_
  refine lv_ldc (own := RX0) (v := 1103515245) hx hb hown (hts _ (List.mem_of_getElem? (i := 2) rfl)) dX0_draw_5 ?_
  refine lv_imul hx hb dX0_draw_7 ?_
  refine lv_topi (fun x_1 ex_1 => ?_)
  refine lv_sipush (v := 12345) hx hb dX0_draw_8 (by decide) ?_
  refine lv_iadd hx hb dX0_draw_11 ?_
  refine lv_topi (fun x_2 ex_2 => ?_)
  refine va_put (D := D) (ci := 0) (v := .int x_2) (ty := .int) (C := RX0) (T := TX0) (N := 9) hx hb hts hi_X0_draw_0 tyX0 tyX0_ok nmX0 hown hK hP hD hS 0 rfl rfl 8 (by decide) (hts (.fieldLink RX0 44 "TheLiningsInIt$Jacket" "seedNow" "I") (List.mem_of_getElem? (i := 1) rfl)) (fun _ h9 => h9) rfl (tyX0_ok 8 (Nat.le_of_ble_eq_true rfl)) rfl rfl (Nat.le_of_ble_eq_true rfl) dX0_draw_12 (fun H locs hP hD hS => ?_)
  have h9R := zRe (ws' := [(j0, .inr (0, [.ref z0, .ref jp, .ref jc, .int cn, .int de, .int tr, .int se, .int hu, .int x_2]))]) hP hD rfl
  clear hP hD
  obtain ⟨hP, hD⟩ := h9R
  refine lv_iload_n hx hb dX0_draw_15 rfl (lv_at hl 1 rfl) ?_
  refine lv_iconst (v := 1) hx hb dX0_draw_16 (by decide) ?_
  refine lv_icmp_ge (tgt := 24) hx hb dX0_draw_17 (by decide) (fun c_3 => ?_) (fun c_3 => ?_)
  · refine lv_aload_n hx hb dX0_draw_24 rfl (lv_at hl 0 rfl) ?_
    refine va_get (D := D) (ci := 0) (v := .int x_2) (C := RX0) (T := TX0) (N := 9) hx hb hts hi_X0_draw_0 hown hK hP 0 rfl rfl 8 (by decide) (hts (.fieldLink RX0 44 "TheLiningsInIt$Jacket" "seedNow" "I") (List.mem_of_getElem? (i := 1) rfl)) (fun _ h9 => h9) rfl dX0_draw_25 ?_
    refine lv_bipush (v := 16) hx hb dX0_draw_28 (by decide) ?_
    refine lv_iushr hx hb dX0_draw_30 rfl ?_
    refine lv_topi (fun x_4 ex_4 => ?_)
    have bx_4 : 0 ≤ x_4.toInt ∧ x_4.toInt ≤ 65535 := by rw [ex_4]; exact zf_ushr
    refine lv_iload_n hx hb dX0_draw_31 rfl (lv_at hl 1 rfl) ?_
    refine lv_irem hx hb dX0_draw_32 (by decide) ?_
    refine lv_topi (fun x_5 ex_5 => ?_)
    have qx_5 : x_5.toInt = x_4.toInt - x_4.toInt / 10 * 10 := by rw [ex_5]; exact zf_rem rfl (by decide) (by omega) (by omega)
    exact W.iret (v := x_5) hx hb hr (fun t ht hW => ⟨⟨x_5, x_2, rfl, ⟨by omega, by omega⟩, zRet ht hP hD [0] (by decide) rfl⟩, hS.F ht⟩) hS.2.2 dX0_draw_33
  · exact absurd c_3 (by decide)
set_option maxHeartbeats 4000000 in
set_option maxRecDepth 100000 in
theorem c_J_draw_12 (l : Launch) (D : va_G) (cI cJ cZ cP cS : ClassId) (po : zPool) (j0 jp jc z0 zl zs : Nat) (cn de tr se hu sd : Int32) (hy0 : 0 ≤ cn.toInt) (hy1 : cn.toInt ≤ 8) (hy2 : 0 ≤ de.toInt) (hy3 : de.toInt ≤ 24) (hy4 : 0 ≤ hu.toInt) (hy5 : hu.toInt ≤ 9) (hpz : Nat) : Met l yX0_draw wsX0_draw ({ frames := 0, cells := 0, slots := 0, locals := 0 }) (va_Pc [.ref j0, .int 12] (zW D (zKT cI cJ cZ cP cS) po [(j0, .inr (0, [.ref z0, .ref jp, .ref jc, .int cn, .int de, .int tr, .int se, .int hu, .int sd]))] hpz)) (va_Qi (fun (r : Int32) (sd2 : (Int32)) => 0 ≤ r.toInt ∧ r.toInt ≤ 11) (zB D [(j0, .inr (0, [.ref z0, .ref jp, .ref jc, .int cn, .int de, .int tr, .int se, .int hu, .int sd]))] hpz (fun (sd2 : Int32) => [(j0, .inr (0, [.ref z0, .ref jp, .ref jc, .int cn, .int de, .int tr, .int se, .int hu, .int sd2]))])) (va_A [(j0, .inr (0, [.ref z0, .ref jp, .ref jc, .int cn, .int de, .int tr, .int se, .int hu, .int sd]))] hpz)) 0 0 (va_A [(j0, .inr (0, [.ref z0, .ref jp, .ref jc, .int cn, .int de, .int tr, .int se, .int hu, .int sd]))] hpz) := by
  refine Met.ofW (cc := cX0_draw) (maxL := 2) (ret := (some .int)) (by decide) rfl ?_
  intro p e s m args below meth c s₁ B hml hv
  obtain ⟨rfl, hsz, hP, hK, hD0, hN, hZ⟩ := hv
  have hx := B.exec
  have hb := B.bytes
  have hr := B.returns
  have hts := atoms_spec (ws := wsX0_draw) B.pre
  have hown : s.vm.findClass RX0 = some m.cls := findClass_of_methodNamed B.named
  have hlocks := B.notSynchronized
  subst hsz
  have hD := hD0.self (sz := s.heap.size)
  have hA := zA_of hD
  have hl := lv_entry ([.ref j0, .int 12]) (n := 2) (Nat.le_of_ble_eq_true rfl)
  rw [lg_entry_eq]
  generalize (lg_sl ([.ref j0, .int 12]) ++ List.replicate (2 - (lg_sl ([.ref j0, .int 12])).length) Slot.unset).toArray = ls at hl ⊢
  replace hl : lv_has ls 2 [(0, .ref j0), (1, .int 12)] := hl
  refine zw_begin hP hD (fun H locs hP1 hS => ?_)
  clear hP
  have hP := hP1
  clear hP1
  refine lv_aload_n hx hb dX0_draw_0 rfl (lv_at hl 0 rfl) ?_
  refine lv_aload_n hx hb dX0_draw_1 rfl (lv_at hl 0 rfl) ?_
  refine va_get (D := D) (ci := 0) (v := .int sd) (C := RX0) (T := TX0) (N := 9) hx hb hts hi_X0_draw_0 hown hK hP 0 rfl rfl 8 (by decide) (hts (.fieldLink RX0 44 "TheLiningsInIt$Jacket" "seedNow" "I") (List.mem_of_getElem? (i := 1) rfl)) (fun _ h9 => h9) rfl dX0_draw_2 ?_
  refine lv_ldc (own := RX0) (v := 1103515245) hx hb hown (hts _ (List.mem_of_getElem? (i := 2) rfl)) dX0_draw_5 ?_
  refine lv_imul hx hb dX0_draw_7 ?_
  refine lv_topi (fun x_1 ex_1 => ?_)
  refine lv_sipush (v := 12345) hx hb dX0_draw_8 (by decide) ?_
  refine lv_iadd hx hb dX0_draw_11 ?_
  refine lv_topi (fun x_2 ex_2 => ?_)
  refine va_put (D := D) (ci := 0) (v := .int x_2) (ty := .int) (C := RX0) (T := TX0) (N := 9) hx hb hts hi_X0_draw_0 tyX0 tyX0_ok nmX0 hown hK hP hD hS 0 rfl rfl 8 (by decide) (hts (.fieldLink RX0 44 "TheLiningsInIt$Jacket" "seedNow" "I") (List.mem_of_getElem? (i := 1) rfl)) (fun _ h9 => h9) rfl (tyX0_ok 8 (Nat.le_of_ble_eq_true rfl)) rfl rfl (Nat.le_of_ble_eq_true rfl) dX0_draw_12 (fun H locs hP hD hS => ?_)
  have h9R := zRe (ws' := [(j0, .inr (0, [.ref z0, .ref jp, .ref jc, .int cn, .int de, .int tr, .int se, .int hu, .int x_2]))]) hP hD rfl
  clear hP hD
  obtain ⟨hP, hD⟩ := h9R
  refine lv_iload_n hx hb dX0_draw_15 rfl (lv_at hl 1 rfl) ?_
  refine lv_iconst (v := 1) hx hb dX0_draw_16 (by decide) ?_
  refine lv_icmp_ge (tgt := 24) hx hb dX0_draw_17 (by decide) (fun c_3 => ?_) (fun c_3 => ?_)
  · refine lv_aload_n hx hb dX0_draw_24 rfl (lv_at hl 0 rfl) ?_
    refine va_get (D := D) (ci := 0) (v := .int x_2) (C := RX0) (T := TX0) (N := 9) hx hb hts hi_X0_draw_0 hown hK hP 0 rfl rfl 8 (by decide) (hts (.fieldLink RX0 44 "TheLiningsInIt$Jacket" "seedNow" "I") (List.mem_of_getElem? (i := 1) rfl)) (fun _ h9 => h9) rfl dX0_draw_25 ?_
    refine lv_bipush (v := 16) hx hb dX0_draw_28 (by decide) ?_
    refine lv_iushr hx hb dX0_draw_30 rfl ?_
    refine lv_topi (fun x_4 ex_4 => ?_)
    have bx_4 : 0 ≤ x_4.toInt ∧ x_4.toInt ≤ 65535 := by rw [ex_4]; exact zf_ushr
    refine lv_iload_n hx hb dX0_draw_31 rfl (lv_at hl 1 rfl) ?_
    refine lv_irem hx hb dX0_draw_32 (by decide) ?_
    refine lv_topi (fun x_5 ex_5 => ?_)
    have qx_5 : x_5.toInt = x_4.toInt - x_4.toInt / 12 * 12 := by rw [ex_5]; exact zf_rem rfl (by decide) (by omega) (by omega)
    exact W.iret (v := x_5) hx hb hr (fun t ht hW => ⟨⟨x_5, x_2, rfl, ⟨by omega, by omega⟩, zRet ht hP hD [0] (by decide) rfl⟩, hS.F ht⟩) hS.2.2 dX0_draw_33
  · exact absurd c_3 (by decide)
theorem hi_X0_pullInTruth_0 : ∀ w ∈ u_ws RX0 TX0 9, w ∈ wsX0_pullInTruth := fun w h => (gl_X0_pullInTruth_X00 w h).1
theorem hi_X0_pullInTruth_2 : ∀ w ∈ u_ws RX2 TX2 3, w ∈ wsX0_pullInTruth := fun w h => (gl_X0_pullInTruth_X20 w h).1
set_option maxHeartbeats 4000000 in
set_option maxRecDepth 100000 in
theorem c_J_pullInTruth (l : Launch) (D : va_G) (cI cJ cZ cP cS : ClassId) (po : zPool) (j0 jp jc z0 zl zs : Nat) (cn de tr se hu sd : Int32) (u0 : Nat) (ki a_ ta : Int32) (hu_u0 : zPu po u0 ki a_ ta) (hr_u0 : zPr ki a_ ta) (hy2 : 0 ≤ cn.toInt) (hy3 : cn.toInt ≤ 8) (hy4 : 0 ≤ de.toInt) (hy5 : de.toInt ≤ 24) (hy6 : 0 ≤ hu.toInt) (hy7 : hu.toInt ≤ 9) (hpz : Nat) : Met l yX0_pullInTruth wsX0_pullInTruth ({ frames := 2, cells := 0, slots := 0, locals := 44 }) (va_Pc [.ref j0, .ref u0] (zW D (zKT cI cJ cZ cP cS) po [(j0, .inr (0, [.ref z0, .ref jp, .ref jc, .int cn, .int de, .int tr, .int se, .int hu, .int sd]))] hpz)) (va_Qv (fun (u : (Int32) × (Int32) × (Int32) × (Int32)) => (0 ≤ u.1.toInt ∧ u.1.toInt ≤ 24) ∧ (True)) (zB D [(j0, .inr (0, [.ref z0, .ref jp, .ref jc, .int cn, .int de, .int tr, .int se, .int hu, .int sd]))] hpz (fun (u : (Int32) × (Int32) × (Int32) × (Int32)) => [(j0, .inr (0, [.ref z0, .ref jp, .ref jc, .int cn, .int u.1, .int u.2.1, .int u.2.2.1, .int hu, .int u.2.2.2]))])) (va_A [(j0, .inr (0, [.ref z0, .ref jp, .ref jc, .int cn, .int de, .int tr, .int se, .int hu, .int sd]))] hpz)) 0 0 (va_A [(j0, .inr (0, [.ref z0, .ref jp, .ref jc, .int cn, .int de, .int tr, .int se, .int hu, .int sd]))] hpz) := by
  refine Met.ofW (cc := cX0_pullInTruth) (maxL := 3) (ret := none) (by decide) rfl ?_
  intro p e s m args below meth c s₁ B hml hv
  obtain ⟨rfl, hsz, hP, hK, hD0, hN, hZ⟩ := hv
  have hx := B.exec
  have hb := B.bytes
  have hr := B.returns
  have hts := atoms_spec (ws := wsX0_pullInTruth) B.pre
  have hown : s.vm.findClass RX0 = some m.cls := findClass_of_methodNamed B.named
  have hlocks := B.notSynchronized
  subst hsz
  have hD := hD0.self (sz := s.heap.size)
  have hA := zA_of hD
  have hl := lv_entry ([.ref j0, .ref u0]) (n := 3) (Nat.le_of_ble_eq_true rfl)
  rw [lg_entry_eq]
  generalize (lg_sl ([.ref j0, .ref u0]) ++ List.replicate (3 - (lg_sl ([.ref j0, .ref u0])).length) Slot.unset).toArray = ls at hl ⊢
  replace hl : lv_has ls 3 [(0, .ref j0), (1, .ref u0)] := hl
  refine zw_begin hP hD (fun H locs hP1 hS => ?_)
  clear hP
  have hP := hP1
  clear hP1
  obtain ⟨⟨p1_u0, p2_u0⟩, ⟨p3_u0, p4_u0⟩, p5_u0, p6_u0⟩ := id hr_u0
  refine lv_aload_n hx hb dX0_pullInTruth_0 rfl (lv_at hl 0 rfl) ?_
  refine lv_bipush (v := 12) hx hb dX0_pullInTruth_1 (by decide) ?_
  skip
  refine zw_V (As := [.int 12]) (rest := []) (wr := []) ⟨hx, hb, hml, hown, hts⟩ (c_J_draw_12 l D cI cJ cZ cP cS po j0 jp jc z0 0 0 (cn) (de) (tr) (se) (hu) (sd) hy2 hy3 hy4 hy5 hy6 hy7 H.size) (cwV 1 hts gX0_pullInTruth_X0_draw rfl rfl rfl ⟨rfl, dh_X0_draw⟩ ⟨Nat.le_of_ble_eq_true rfl, Nat.le_of_ble_eq_true rfl⟩) hK hN (hZ.kept hS) hP hD hS hA [0] [] rfl rfl (by decide) (by decide) (by decide) (va_recv (q := (RX0, TX0, 9)) hK hP (ci := 0) (q0 := 0) rfl rfl) rfl hl.1 rfl (Nat.le_of_ble_eq_true rfl) dX0_pullInTruth_3 ⟨Nat.le_of_ble_eq_true rfl, Nat.le_of_ble_eq_true rfl⟩ (fun r_1 u_2 H locs hr_1 hP hD hS => ?_)
  obtain ⟨q_3, rfl⟩ : ∃ z, z = u_2 := ⟨_, rfl⟩
  have h9R := zRe (ws' := [(j0, .inr (0, [.ref z0, .ref jp, .ref jc, .int cn, .int de, .int tr, .int se, .int hu, .int q_3]))]) hP hD rfl
  clear hP hD
  obtain ⟨hP, hD⟩ := h9R
  obtain ⟨g_4, g_5⟩ := hr_1
  refine lv_aload_n hx hb dX0_pullInTruth_6 rfl (lv_at hl 1 rfl) ?_
  refine lv_aload_n hx hb dX0_pullInTruth_7 rfl (lv_at hl 0 rfl) ?_
  refine va_get (D := D) (ci := 0) (v := .int de) (C := RX0) (T := TX0) (N := 9) hx hb hts hi_X0_pullInTruth_0 hown hK hP 0 rfl rfl 4 (by decide) (hts (.fieldLink RX0 32 "TheLiningsInIt$Jacket" "depth" "I") (List.mem_of_getElem? (i := 1) rfl)) (fun _ h9 => h9) rfl dX0_pullInTruth_8 ?_
  refine lv_aload_n hx hb dX0_pullInTruth_11 rfl (lv_at hl 0 rfl) ?_
  refine va_get (D := D) (ci := 0) (v := .int hu) (C := RX0) (T := TX0) (N := 9) hx hb hts hi_X0_pullInTruth_0 hown hK hP 0 rfl rfl 7 (by decide) (hts (.fieldLink RX0 41 "TheLiningsInIt$Jacket" "hurry" "I") (List.mem_of_getElem? (i := 2) rfl)) (fun _ h9 => h9) rfl dX0_pullInTruth_12 ?_
  refine zc_V (As := [.int de, .int hu]) (rest := [.int r_1]) ⟨hx, hb, hml, hown, hts⟩ (c_Pull_waysAt l D cI cJ cZ cP cS po (de) (hu) u0 (ki) (a_) (ta) hu_u0 ⟨by omega, by omega, by omega, by omega⟩ hy4 hy5 hy6 hy7) (cwV 2 hts gX0_pullInTruth_X2_waysAt rfl rfl rfl ⟨rfl, dh_X2_waysAt⟩ ⟨Nat.le_of_ble_eq_true rfl, Nat.le_of_ble_eq_true rfl⟩) hK hN (hZ.kept hS) hP zP_nil (va_recv (q := (RX2, TX2, 3)) hK (zPu_P (hZ.kept hS) hu_u0) (ci := 2) (q0 := 0) rfl rfl) rfl hl.1 rfl (Nat.le_of_ble_eq_true rfl) dX0_pullInTruth_15 ⟨Nat.le_of_ble_eq_true rfl, Nat.le_of_ble_eq_true rfl⟩ (fun r_6 hr_6 => ?_)
  obtain ⟨g_7, g_8⟩ := hr_6
  refine lv_icmp_ge (tgt := 25) hx hb dX0_pullInTruth_18 (by decide) (fun c_9 => ?_) (fun c_9 => ?_)
  · have fc_9 : r_6.toInt ≤ r_1.toInt := zf_le c_9 rfl rfl
    refine lv_iconst (v := 0) hx hb dX0_pullInTruth_25 (by decide) ?_
    refine lv_istore_n (lv' := [(2, .int 0), (0, .ref j0), (1, .ref u0)]) hx hb dX0_pullInTruth_26 rfl hl (by decide) rfl (fun ls hl => ?_)
    refine lv_aload_n hx hb dX0_pullInTruth_27 rfl (lv_at hl 1 rfl) ?_
    refine lv_iload_n hx hb dX0_pullInTruth_28 rfl (lv_at hl 0 rfl) ?_
    refine lv_if_eq (tgt := 43) hx hb dX0_pullInTruth_29 (by decide) (fun c_10 => ?_) (fun c_10 => ?_)
    · refine lv_aload_n hx hb dX0_pullInTruth_43 rfl (lv_at hl 2 rfl) ?_
      refine lv_aload_n hx hb dX0_pullInTruth_44 rfl (lv_at hl 1 rfl) ?_
      refine va_get (D := D) (ci := 0) (v := .int de) (C := RX0) (T := TX0) (N := 9) hx hb hts hi_X0_pullInTruth_0 hown hK hP 0 rfl rfl 4 (by decide) (hts (.fieldLink RX0 32 "TheLiningsInIt$Jacket" "depth" "I") (List.mem_of_getElem? (i := 1) rfl)) (fun _ h9 => h9) rfl dX0_pullInTruth_45 ?_
      refine lv_aload_n hx hb dX0_pullInTruth_48 rfl (lv_at hl 1 rfl) ?_
      refine va_get (D := D) (ci := 0) (v := .int hu) (C := RX0) (T := TX0) (N := 9) hx hb hts hi_X0_pullInTruth_0 hown hK hP 0 rfl rfl 7 (by decide) (hts (.fieldLink RX0 41 "TheLiningsInIt$Jacket" "hurry" "I") (List.mem_of_getElem? (i := 2) rfl)) (fun _ h9 => h9) rfl dX0_pullInTruth_49 ?_
      refine zc_V (As := [.int de, .int hu]) (rest := [.ref j0]) ⟨hx, hb, hml, hown, hts⟩ (c_Pull_deeper l D cI cJ cZ cP cS po (de) (hu) u0 (ki) (a_) (ta) hu_u0 ⟨by omega, by omega, by omega, by omega⟩ hy4 hy5 hy6 hy7) (cwV 2 hts gX0_pullInTruth_X2_deeper rfl rfl rfl ⟨rfl, dh_X2_deeper⟩ ⟨Nat.le_of_ble_eq_true rfl, Nat.le_of_ble_eq_true rfl⟩) hK hN (hZ.kept hS) hP zP_nil (va_recv (q := (RX2, TX2, 3)) hK (zPu_P (hZ.kept hS) hu_u0) (ci := 2) (q0 := 0) rfl rfl) rfl hl.1 rfl (Nat.le_of_ble_eq_true rfl) dX0_pullInTruth_52 ⟨Nat.le_of_ble_eq_true rfl, Nat.le_of_ble_eq_true rfl⟩ (fun r_11 hr_11 => ?_)
      obtain ⟨g_12, g_13⟩ := hr_11
      refine va_put (D := D) (ci := 0) (v := .int r_11) (ty := .int) (C := RX0) (T := TX0) (N := 9) hx hb hts hi_X0_pullInTruth_0 tyX0 tyX0_ok nmX0 hown hK hP hD hS 0 rfl rfl 4 (by decide) (hts (.fieldLink RX0 32 "TheLiningsInIt$Jacket" "depth" "I") (List.mem_of_getElem? (i := 1) rfl)) (fun _ h9 => h9) rfl (tyX0_ok 4 (Nat.le_of_ble_eq_true rfl)) rfl rfl (Nat.le_of_ble_eq_true rfl) dX0_pullInTruth_55 (fun H locs hP hD hS => ?_)
      have h9R := zRe (ws' := [(j0, .inr (0, [.ref z0, .ref jp, .ref jc, .int cn, .int r_11, .int tr, .int se, .int hu, .int q_3]))]) hP hD rfl
      clear hP hD
      obtain ⟨hP, hD⟩ := h9R
      refine lv_aload_n hx hb dX0_pullInTruth_58 rfl (lv_at hl 1 rfl) ?_
      refine lv_dup hx hb dX0_pullInTruth_59 rfl ?_
      refine va_get (D := D) (ci := 0) (v := .int se) (C := RX0) (T := TX0) (N := 9) hx hb hts hi_X0_pullInTruth_0 hown hK hP 0 rfl rfl 6 (by decide) (hts (.fieldLink RX0 38 "TheLiningsInIt$Jacket" "seconds" "I") (List.mem_of_getElem? (i := 3) rfl)) (fun _ h9 => h9) rfl dX0_pullInTruth_60 ?_
      refine lv_aload_n hx hb dX0_pullInTruth_63 rfl (lv_at hl 2 rfl) ?_
      refine va_get (D := D) (ci := 2) (v := .int ta) (C := RX2) (T := TX2) (N := 3) hx hb hts hi_X0_pullInTruth_2 hown hK (zPu_P (hZ.kept hS) hu_u0) 0 rfl rfl 2 (by decide) (hts (.fieldLink RX0 99 "TheLiningsInIt$Pull" "takes" "I") (List.mem_of_getElem? (i := 4) rfl)) (fun _ h9 => h9) rfl dX0_pullInTruth_64 ?_
      refine lv_isub hx hb dX0_pullInTruth_67 ?_
      refine lv_topi (fun x_14 ex_14 => ?_)
      refine va_put (D := D) (ci := 0) (v := .int x_14) (ty := .int) (C := RX0) (T := TX0) (N := 9) hx hb hts hi_X0_pullInTruth_0 tyX0 tyX0_ok nmX0 hown hK hP hD hS 0 rfl rfl 6 (by decide) (hts (.fieldLink RX0 38 "TheLiningsInIt$Jacket" "seconds" "I") (List.mem_of_getElem? (i := 3) rfl)) (fun _ h9 => h9) rfl (tyX0_ok 6 (Nat.le_of_ble_eq_true rfl)) rfl rfl (Nat.le_of_ble_eq_true rfl) dX0_pullInTruth_68 (fun H locs hP hD hS => ?_)
      have h9R := zRe (ws' := [(j0, .inr (0, [.ref z0, .ref jp, .ref jc, .int cn, .int r_11, .int tr, .int x_14, .int hu, .int q_3]))]) hP hD rfl
      clear hP hD
      obtain ⟨hP, hD⟩ := h9R
      refine lv_aload_n hx hb dX0_pullInTruth_71 rfl (lv_at hl 2 rfl) ?_
      refine va_get (D := D) (ci := 2) (v := .int ki) (C := RX2) (T := TX2) (N := 3) hx hb hts hi_X0_pullInTruth_2 hown hK (zPu_P (hZ.kept hS) hu_u0) 0 rfl rfl 0 (by decide) (hts (.fieldLink RX0 102 "TheLiningsInIt$Pull" "kind" "I") (List.mem_of_getElem? (i := 5) rfl)) (fun _ h9 => h9) rfl dX0_pullInTruth_72 ?_
      refine lv_iconst (v := 5) hx hb dX0_pullInTruth_75 (by decide) ?_
      refine lv_icmp_ne (tgt := 89) hx hb dX0_pullInTruth_76 (by decide) (fun c_15 => ?_) (fun c_15 => ?_)
      · have fc_15 : ki.toInt ≠ 5 := zf_ne c_15 rfl (by decide)
        exact W.vret hx hb hr (fun t ht hW => ⟨⟨(r_11, tr, x_14, q_3), rfl, ⟨(show 0 ≤ r_11.toInt ∧ r_11.toInt ≤ 24 from ⟨by omega, by omega⟩), trivial⟩, zRet ht hP hD [0] (by decide) rfl⟩, hS.F ht⟩) hS.2.2 dX0_pullInTruth_89
      · have fc_15 : ki.toInt = 5 := zf_eq c_15 rfl (by decide)
        refine lv_aload_n hx hb dX0_pullInTruth_79 rfl (lv_at hl 1 rfl) ?_
        refine lv_dup hx hb dX0_pullInTruth_80 rfl ?_
        refine va_get (D := D) (ci := 0) (v := .int tr) (C := RX0) (T := TX0) (N := 9) hx hb hts hi_X0_pullInTruth_0 hown hK hP 0 rfl rfl 5 (by decide) (hts (.fieldLink RX0 35 "TheLiningsInIt$Jacket" "torn" "I") (List.mem_of_getElem? (i := 6) rfl)) (fun _ h9 => h9) rfl dX0_pullInTruth_81 ?_
        refine lv_iconst (v := 1) hx hb dX0_pullInTruth_84 (by decide) ?_
        refine lv_iadd hx hb dX0_pullInTruth_85 ?_
        refine lv_topi (fun x_16 ex_16 => ?_)
        refine va_put (D := D) (ci := 0) (v := .int x_16) (ty := .int) (C := RX0) (T := TX0) (N := 9) hx hb hts hi_X0_pullInTruth_0 tyX0 tyX0_ok nmX0 hown hK hP hD hS 0 rfl rfl 5 (by decide) (hts (.fieldLink RX0 35 "TheLiningsInIt$Jacket" "torn" "I") (List.mem_of_getElem? (i := 6) rfl)) (fun _ h9 => h9) rfl (tyX0_ok 5 (Nat.le_of_ble_eq_true rfl)) rfl rfl (Nat.le_of_ble_eq_true rfl) dX0_pullInTruth_86 (fun H locs hP hD hS => ?_)
        have h9R := zRe (ws' := [(j0, .inr (0, [.ref z0, .ref jp, .ref jc, .int cn, .int r_11, .int x_16, .int x_14, .int hu, .int q_3]))]) hP hD rfl
        clear hP hD
        obtain ⟨hP, hD⟩ := h9R
        exact W.vret hx hb hr (fun t ht hW => ⟨⟨(r_11, x_16, x_14, q_3), rfl, ⟨(show 0 ≤ r_11.toInt ∧ r_11.toInt ≤ 24 from ⟨by omega, by omega⟩), trivial⟩, zRet ht hP hD [0] (by decide) rfl⟩, hS.F ht⟩) hS.2.2 dX0_pullInTruth_89
    · exact absurd c_10 (by decide)
  · have fc_9 : r_1.toInt < r_6.toInt := zf_nle c_9 rfl rfl
    refine lv_iconst (v := 1) hx hb dX0_pullInTruth_21 (by decide) ?_
    refine lv_goto (tgt := 26) hx hb dX0_pullInTruth_22 (by decide) ?_
    refine lv_istore_n (lv' := [(2, .int 1), (0, .ref j0), (1, .ref u0)]) hx hb dX0_pullInTruth_26 rfl hl (by decide) rfl (fun ls hl => ?_)
    refine lv_aload_n hx hb dX0_pullInTruth_27 rfl (lv_at hl 1 rfl) ?_
    refine lv_iload_n hx hb dX0_pullInTruth_28 rfl (lv_at hl 0 rfl) ?_
    refine lv_if_eq (tgt := 43) hx hb dX0_pullInTruth_29 (by decide) (fun c_17 => ?_) (fun c_17 => ?_)
    · exact absurd c_17 (by decide)
    · refine lv_aload_n hx hb dX0_pullInTruth_32 rfl (lv_at hl 2 rfl) ?_
      refine lv_aload_n hx hb dX0_pullInTruth_33 rfl (lv_at hl 1 rfl) ?_
      refine va_get (D := D) (ci := 0) (v := .int de) (C := RX0) (T := TX0) (N := 9) hx hb hts hi_X0_pullInTruth_0 hown hK hP 0 rfl rfl 4 (by decide) (hts (.fieldLink RX0 32 "TheLiningsInIt$Jacket" "depth" "I") (List.mem_of_getElem? (i := 1) rfl)) (fun _ h9 => h9) rfl dX0_pullInTruth_34 ?_
      refine zc_V (As := [.int de]) (rest := [.ref j0]) ⟨hx, hb, hml, hown, hts⟩ (c_Pull_shallower l D cI cJ cZ cP cS po (de) u0 (ki) (a_) (ta) hu_u0 ⟨by omega, by omega, by omega, by omega⟩ hy4 hy5) (cwV 1 hts gX0_pullInTruth_X2_shallower rfl rfl rfl ⟨rfl, dh_X2_shallower⟩ ⟨Nat.le_of_ble_eq_true rfl, Nat.le_of_ble_eq_true rfl⟩) hK hN (hZ.kept hS) hP zP_nil (va_recv (q := (RX2, TX2, 3)) hK (zPu_P (hZ.kept hS) hu_u0) (ci := 2) (q0 := 0) rfl rfl) rfl hl.1 rfl (Nat.le_of_ble_eq_true rfl) dX0_pullInTruth_37 ⟨Nat.le_of_ble_eq_true rfl, Nat.le_of_ble_eq_true rfl⟩ (fun r_18 hr_18 => ?_)
      obtain ⟨g_19, g_20⟩ := hr_18
      refine lv_goto (tgt := 55) hx hb dX0_pullInTruth_40 (by decide) ?_
      refine va_put (D := D) (ci := 0) (v := .int r_18) (ty := .int) (C := RX0) (T := TX0) (N := 9) hx hb hts hi_X0_pullInTruth_0 tyX0 tyX0_ok nmX0 hown hK hP hD hS 0 rfl rfl 4 (by decide) (hts (.fieldLink RX0 32 "TheLiningsInIt$Jacket" "depth" "I") (List.mem_of_getElem? (i := 1) rfl)) (fun _ h9 => h9) rfl (tyX0_ok 4 (Nat.le_of_ble_eq_true rfl)) rfl rfl (Nat.le_of_ble_eq_true rfl) dX0_pullInTruth_55 (fun H locs hP hD hS => ?_)
      have h9R := zRe (ws' := [(j0, .inr (0, [.ref z0, .ref jp, .ref jc, .int cn, .int r_18, .int tr, .int se, .int hu, .int q_3]))]) hP hD rfl
      clear hP hD
      obtain ⟨hP, hD⟩ := h9R
      refine lv_aload_n hx hb dX0_pullInTruth_58 rfl (lv_at hl 1 rfl) ?_
      refine lv_dup hx hb dX0_pullInTruth_59 rfl ?_
      refine va_get (D := D) (ci := 0) (v := .int se) (C := RX0) (T := TX0) (N := 9) hx hb hts hi_X0_pullInTruth_0 hown hK hP 0 rfl rfl 6 (by decide) (hts (.fieldLink RX0 38 "TheLiningsInIt$Jacket" "seconds" "I") (List.mem_of_getElem? (i := 3) rfl)) (fun _ h9 => h9) rfl dX0_pullInTruth_60 ?_
      refine lv_aload_n hx hb dX0_pullInTruth_63 rfl (lv_at hl 2 rfl) ?_
      refine va_get (D := D) (ci := 2) (v := .int ta) (C := RX2) (T := TX2) (N := 3) hx hb hts hi_X0_pullInTruth_2 hown hK (zPu_P (hZ.kept hS) hu_u0) 0 rfl rfl 2 (by decide) (hts (.fieldLink RX0 99 "TheLiningsInIt$Pull" "takes" "I") (List.mem_of_getElem? (i := 4) rfl)) (fun _ h9 => h9) rfl dX0_pullInTruth_64 ?_
      refine lv_isub hx hb dX0_pullInTruth_67 ?_
      refine lv_topi (fun x_21 ex_21 => ?_)
      refine va_put (D := D) (ci := 0) (v := .int x_21) (ty := .int) (C := RX0) (T := TX0) (N := 9) hx hb hts hi_X0_pullInTruth_0 tyX0 tyX0_ok nmX0 hown hK hP hD hS 0 rfl rfl 6 (by decide) (hts (.fieldLink RX0 38 "TheLiningsInIt$Jacket" "seconds" "I") (List.mem_of_getElem? (i := 3) rfl)) (fun _ h9 => h9) rfl (tyX0_ok 6 (Nat.le_of_ble_eq_true rfl)) rfl rfl (Nat.le_of_ble_eq_true rfl) dX0_pullInTruth_68 (fun H locs hP hD hS => ?_)
      have h9R := zRe (ws' := [(j0, .inr (0, [.ref z0, .ref jp, .ref jc, .int cn, .int r_18, .int tr, .int x_21, .int hu, .int q_3]))]) hP hD rfl
      clear hP hD
      obtain ⟨hP, hD⟩ := h9R
      refine lv_aload_n hx hb dX0_pullInTruth_71 rfl (lv_at hl 2 rfl) ?_
      refine va_get (D := D) (ci := 2) (v := .int ki) (C := RX2) (T := TX2) (N := 3) hx hb hts hi_X0_pullInTruth_2 hown hK (zPu_P (hZ.kept hS) hu_u0) 0 rfl rfl 0 (by decide) (hts (.fieldLink RX0 102 "TheLiningsInIt$Pull" "kind" "I") (List.mem_of_getElem? (i := 5) rfl)) (fun _ h9 => h9) rfl dX0_pullInTruth_72 ?_
      refine lv_iconst (v := 5) hx hb dX0_pullInTruth_75 (by decide) ?_
      refine lv_icmp_ne (tgt := 89) hx hb dX0_pullInTruth_76 (by decide) (fun c_22 => ?_) (fun c_22 => ?_)
      · have fc_22 : ki.toInt ≠ 5 := zf_ne c_22 rfl (by decide)
        exact W.vret hx hb hr (fun t ht hW => ⟨⟨(r_18, tr, x_21, q_3), rfl, ⟨(show 0 ≤ r_18.toInt ∧ r_18.toInt ≤ 24 from ⟨by omega, by omega⟩), trivial⟩, zRet ht hP hD [0] (by decide) rfl⟩, hS.F ht⟩) hS.2.2 dX0_pullInTruth_89
      · have fc_22 : ki.toInt = 5 := zf_eq c_22 rfl (by decide)
        refine lv_aload_n hx hb dX0_pullInTruth_79 rfl (lv_at hl 1 rfl) ?_
        refine lv_dup hx hb dX0_pullInTruth_80 rfl ?_
        refine va_get (D := D) (ci := 0) (v := .int tr) (C := RX0) (T := TX0) (N := 9) hx hb hts hi_X0_pullInTruth_0 hown hK hP 0 rfl rfl 5 (by decide) (hts (.fieldLink RX0 35 "TheLiningsInIt$Jacket" "torn" "I") (List.mem_of_getElem? (i := 6) rfl)) (fun _ h9 => h9) rfl dX0_pullInTruth_81 ?_
        refine lv_iconst (v := 1) hx hb dX0_pullInTruth_84 (by decide) ?_
        refine lv_iadd hx hb dX0_pullInTruth_85 ?_
        refine lv_topi (fun x_23 ex_23 => ?_)
        refine va_put (D := D) (ci := 0) (v := .int x_23) (ty := .int) (C := RX0) (T := TX0) (N := 9) hx hb hts hi_X0_pullInTruth_0 tyX0 tyX0_ok nmX0 hown hK hP hD hS 0 rfl rfl 5 (by decide) (hts (.fieldLink RX0 35 "TheLiningsInIt$Jacket" "torn" "I") (List.mem_of_getElem? (i := 6) rfl)) (fun _ h9 => h9) rfl (tyX0_ok 5 (Nat.le_of_ble_eq_true rfl)) rfl rfl (Nat.le_of_ble_eq_true rfl) dX0_pullInTruth_86 (fun H locs hP hD hS => ?_)
        have h9R := zRe (ws' := [(j0, .inr (0, [.ref z0, .ref jp, .ref jc, .int cn, .int r_18, .int x_23, .int x_21, .int hu, .int q_3]))]) hP hD rfl
        clear hP hD
        obtain ⟨hP, hD⟩ := h9R
        exact W.vret hx hb hr (fun t ht hW => ⟨⟨(r_18, x_23, x_21, q_3), rfl, ⟨(show 0 ≤ r_18.toInt ∧ r_18.toInt ≤ 24 from ⟨by omega, by omega⟩), trivial⟩, zRet ht hP hD [0] (by decide) rfl⟩, hS.F ht⟩) hS.2.2 dX0_pullInTruth_89
theorem hi_X0_closeInTruth_0 : ∀ w ∈ u_ws RX0 TX0 9, w ∈ wsX0_closeInTruth := fun w h => (gl_X0_closeInTruth_X00 w h).1
theorem hi_X0_closeInTruth_6 : ∀ w ∈ u_ws RX6 TX6 5, w ∈ wsX0_closeInTruth := fun w h => (gl_X0_closeInTruth_X60 w h).1
set_option maxHeartbeats 4000000 in
set_option maxRecDepth 100000 in
theorem c_J_closeInTruth (l : Launch) (D : va_G) (cI cJ cZ cP cS : ClassId) (po : zPool) (j0 jp jc z0 zl zs : Nat) (cn de tr se hu sd : Int32) (sz at_ gp : Int32) (fl fs : Nat → Int32) (hy0 : 0 ≤ cn.toInt) (hy1 : cn.toInt ≤ 8) (hy2 : 0 ≤ de.toInt) (hy3 : de.toInt ≤ 24) (hy4 : 0 ≤ hu.toInt) (hy5 : hu.toInt ≤ 9) (hy6 : 4 ≤ sz.toInt) (hy7 : sz.toInt ≤ 40) (hy8 : 0 ≤ at_.toInt) (hy9 : at_.toInt ≤ 40) (hy10 : 1 ≤ gp.toInt) (hy11 : gp.toInt ≤ 9) (hp_fl : zRg fl (0) 1) (hp_fs : zRg fs (0) 9) (hpz : Nat) : Met l yX0_closeInTruth wsX0_closeInTruth ({ frames := 3, cells := 0, slots := 0, locals := 63 }) (va_Pc [.ref j0] (zW D (zKT cI cJ cZ cP cS) po [(j0, .inr (0, [.ref z0, .ref jp, .ref jc, .int cn, .int de, .int tr, .int se, .int hu, .int sd])), (z0, .inr (6, [.ref zl, .ref zs, .int sz, .int at_, .int gp])), (zl, .inl (cZ, 40, .inl fl)), (zs, .inl (cI, 40, .inl fs))] hpz)) (va_Qv (fun (u : (Int32) × (Int32) × (Int32)) => (0 ≤ u.1.toInt ∧ u.1.toInt ≤ 24) ∧ (0 ≤ u.2.2.toInt ∧ u.2.2.toInt ≤ 40) ∧ (True)) (zB D [(j0, .inr (0, [.ref z0, .ref jp, .ref jc, .int cn, .int de, .int tr, .int se, .int hu, .int sd])), (z0, .inr (6, [.ref zl, .ref zs, .int sz, .int at_, .int gp])), (zl, .inl (cZ, 40, .inl fl)), (zs, .inl (cI, 40, .inl fs))] hpz (fun (u : (Int32) × (Int32) × (Int32)) => [(j0, .inr (0, [.ref z0, .ref jp, .ref jc, .int cn, .int u.1, .int tr, .int se, .int hu, .int u.2.1])), (z0, .inr (6, [.ref zl, .ref zs, .int sz, .int u.2.2, .int gp])), (zl, .inl (cZ, 40, .inl fl)), (zs, .inl (cI, 40, .inl fs))])) (va_A [(j0, .inr (0, [.ref z0, .ref jp, .ref jc, .int cn, .int de, .int tr, .int se, .int hu, .int sd])), (z0, .inr (6, [.ref zl, .ref zs, .int sz, .int at_, .int gp])), (zl, .inl (cZ, 40, .inl fl)), (zs, .inl (cI, 40, .inl fs))] hpz)) 0 0 (va_A [(j0, .inr (0, [.ref z0, .ref jp, .ref jc, .int cn, .int de, .int tr, .int se, .int hu, .int sd])), (z0, .inr (6, [.ref zl, .ref zs, .int sz, .int at_, .int gp])), (zl, .inl (cZ, 40, .inl fl)), (zs, .inl (cI, 40, .inl fs))] hpz) := by
  refine Met.ofW (cc := cX0_closeInTruth) (maxL := 2) (ret := none) (by decide) rfl ?_
  intro p e s m args below meth c s₁ B hml hv
  obtain ⟨rfl, hsz, hP, hK, hD0, hN, hZ⟩ := hv
  have hx := B.exec
  have hb := B.bytes
  have hr := B.returns
  have hts := atoms_spec (ws := wsX0_closeInTruth) B.pre
  have hown : s.vm.findClass RX0 = some m.cls := findClass_of_methodNamed B.named
  have hlocks := B.notSynchronized
  subst hsz
  have hD := hD0.self (sz := s.heap.size)
  have hA := zA_of hD
  have hl := lv_entry ([.ref j0]) (n := 2) (Nat.le_of_ble_eq_true rfl)
  rw [lg_entry_eq]
  generalize (lg_sl ([.ref j0]) ++ List.replicate (2 - (lg_sl ([.ref j0])).length) Slot.unset).toArray = ls at hl ⊢
  replace hl : lv_has ls 2 [(0, .ref j0)] := hl
  refine zw_begin hP hD (fun H locs hP1 hS => ?_)
  clear hP
  have hP := hP1
  clear hP1
  refine lv_aload_n hx hb dX0_closeInTruth_0 rfl (lv_at hl 0 rfl) ?_
  refine va_get (D := D) (ci := 0) (v := .ref z0) (C := RX0) (T := TX0) (N := 9) hx hb hts hi_X0_closeInTruth_0 hown hK hP 0 rfl rfl 0 (by decide) (hts (.fieldLink RX0 12 "TheLiningsInIt$Jacket" "zip" "LTheLiningsInIt$Zip;") (List.mem_of_getElem? (i := 1) rfl)) (fun _ h9 => h9) rfl dX0_closeInTruth_1 ?_
  refine va_get (D := D) (ci := 6) (v := .int at_) (C := RX6) (T := TX6) (N := 5) hx hb hts hi_X0_closeInTruth_6 hown hK hP 1 rfl rfl 3 (by decide) (hts (.fieldLink RX0 63 "TheLiningsInIt$Zip" "at" "I") (List.mem_of_getElem? (i := 2) rfl)) (fun _ h9 => h9) rfl dX0_closeInTruth_4 ?_
  refine lv_istore_n (lv' := [(1, .int at_), (0, .ref j0)]) hx hb dX0_closeInTruth_7 rfl hl (by decide) rfl (fun ls hl => ?_)
  obtain ⟨i_8, hi_8⟩ : ∃ i : Int32, i = at_ := ⟨_, rfl⟩
  replace hl : lv_has ls 2 [(1, .int i_8), (0, .ref j0)] := by rw [hi_8]; exact lv_sub hl [0, 1] rfl
  have h1i_8 : i_8.toInt = at_.toInt := by rw [hi_8]
  obtain ⟨nfu, hni_8⟩ : ∃ nq9 : Nat, sz.toInt ≤ i_8.toInt + (nq9 : Int) := ⟨((sz.toInt : Int) - at_.toInt).toNat, by omega⟩
  have hloi_8 : 0 ≤ i_8.toInt := by omega
  obtain ⟨v_1, hv_1⟩ : ∃ g : Int32, g = at_ := ⟨_, rfl⟩
  have hbv_1 : 0 ≤ v_1.toInt ∧ v_1.toInt ≤ 40 := by rw [hv_1]; exact ⟨by omega, by omega⟩
  obtain ⟨v_2, hv_2⟩ : ∃ g : Int32, g = sd := ⟨_, rfl⟩
  replace hP : va_P D vwCl [(j0, .inr (0, [.ref z0, .ref jp, .ref jc, .int cn, .int de, .int tr, .int se, .int hu, .int v_2])), (z0, .inr (6, [.ref zl, .ref zs, .int sz, .int v_1, .int gp])), (zl, .inl (cZ, 40, .inl fl)), (zs, .inl (cI, 40, .inl fs))] H := by rw [hv_1, hv_2]; exact hP
  replace hD : va_D (va_A [(j0, .inr (0, [.ref z0, .ref jp, .ref jc, .int cn, .int de, .int tr, .int se, .int hu, .int sd])), (z0, .inr (6, [.ref zl, .ref zs, .int sz, .int at_, .int gp])), (zl, .inl (cZ, 40, .inl fl)), (zs, .inl (cI, 40, .inl fs))] s.heap.size) [(j0, .inr (0, [.ref z0, .ref jp, .ref jc, .int cn, .int de, .int tr, .int se, .int hu, .int v_2])), (z0, .inr (6, [.ref zl, .ref zs, .int sz, .int v_1, .int gp])), (zl, .inl (cZ, 40, .inl fl)), (zs, .inl (cI, 40, .inl fs))] := by rw [hv_1, hv_2]; exact hD
  clear h1i_8 hi_8 hv_1 hv_2
  skip
  revert hni_8
  revert hloi_8
  revert hbv_1
  revert hl
  revert hS
  revert hD
  revert hP
  revert ls
  revert locs
  revert H
  revert v_1
  revert v_2
  revert i_8
  induction nfu with
  | zero =>
    intro i_8 v_2 v_1 H locs ls hP hD hS hl hbv_1 hloi_8 hni_8
    have hzi_8 : sz.toInt ≤ i_8.toInt := by omega
    refine lv_iload_n hx hb dX0_closeInTruth_8 rfl (lv_at hl 0 rfl) ?_
    refine lv_aload_n hx hb dX0_closeInTruth_9 rfl (lv_at hl 1 rfl) ?_
    refine va_get (D := D) (ci := 0) (v := .ref z0) (C := RX0) (T := TX0) (N := 9) hx hb hts hi_X0_closeInTruth_0 hown hK hP 0 rfl rfl 0 (by decide) (hts (.fieldLink RX0 12 "TheLiningsInIt$Jacket" "zip" "LTheLiningsInIt$Zip;") (List.mem_of_getElem? (i := 1) rfl)) (fun _ h9 => h9) rfl dX0_closeInTruth_10 ?_
    refine va_get (D := D) (ci := 6) (v := .int sz) (C := RX6) (T := TX6) (N := 5) hx hb hts hi_X0_closeInTruth_6 hown hK hP 1 rfl rfl 2 (by decide) (hts (.fieldLink RX0 57 "TheLiningsInIt$Zip" "size" "I") (List.mem_of_getElem? (i := 3) rfl)) (fun _ h9 => h9) rfl dX0_closeInTruth_13 ?_
    refine lv_icmp_ge (tgt := 97) hx hb dX0_closeInTruth_16 (by decide) (fun c_3 => ?_) (fun c_3 => ?_)
    · have fc_3 : sz.toInt ≤ i_8.toInt := zf_le c_3 rfl rfl
      refine lv_aload_n hx hb dX0_closeInTruth_97 rfl (lv_at hl 1 rfl) ?_
      refine va_get (D := D) (ci := 0) (v := .ref z0) (C := RX0) (T := TX0) (N := 9) hx hb hts hi_X0_closeInTruth_0 hown hK hP 0 rfl rfl 0 (by decide) (hts (.fieldLink RX0 12 "TheLiningsInIt$Jacket" "zip" "LTheLiningsInIt$Zip;") (List.mem_of_getElem? (i := 1) rfl)) (fun _ h9 => h9) rfl dX0_closeInTruth_98 ?_
      refine lv_aload_n hx hb dX0_closeInTruth_101 rfl (lv_at hl 1 rfl) ?_
      refine va_get (D := D) (ci := 0) (v := .ref z0) (C := RX0) (T := TX0) (N := 9) hx hb hts hi_X0_closeInTruth_0 hown hK hP 0 rfl rfl 0 (by decide) (hts (.fieldLink RX0 12 "TheLiningsInIt$Jacket" "zip" "LTheLiningsInIt$Zip;") (List.mem_of_getElem? (i := 1) rfl)) (fun _ h9 => h9) rfl dX0_closeInTruth_102 ?_
      refine va_get (D := D) (ci := 6) (v := .int sz) (C := RX6) (T := TX6) (N := 5) hx hb hts hi_X0_closeInTruth_6 hown hK hP 1 rfl rfl 2 (by decide) (hts (.fieldLink RX0 57 "TheLiningsInIt$Zip" "size" "I") (List.mem_of_getElem? (i := 3) rfl)) (fun _ h9 => h9) rfl dX0_closeInTruth_105 ?_
      refine va_put (D := D) (ci := 6) (v := .int sz) (ty := .int) (C := RX6) (T := TX6) (N := 5) hx hb hts hi_X0_closeInTruth_6 tyX6 tyX6_ok nmX6 hown hK hP hD hS 1 rfl rfl 3 (by decide) (hts (.fieldLink RX0 63 "TheLiningsInIt$Zip" "at" "I") (List.mem_of_getElem? (i := 2) rfl)) (fun _ h9 => h9) rfl (tyX6_ok 3 (Nat.le_of_ble_eq_true rfl)) rfl rfl (Nat.le_of_ble_eq_true rfl) dX0_closeInTruth_108 (fun H locs hP hD hS => ?_)
      have h9R := zRe (ws' := [(j0, .inr (0, [.ref z0, .ref jp, .ref jc, .int cn, .int de, .int tr, .int se, .int hu, .int v_2])), (z0, .inr (6, [.ref zl, .ref zs, .int sz, .int sz, .int gp])), (zl, .inl (cZ, 40, .inl fl)), (zs, .inl (cI, 40, .inl fs))]) hP hD rfl
      clear hP hD
      obtain ⟨hP, hD⟩ := h9R
      exact W.vret hx hb hr (fun t ht hW => ⟨⟨(de, v_2, sz), rfl, ⟨(show 0 ≤ de.toInt ∧ de.toInt ≤ 24 from ⟨hy2, hy3⟩), (show 0 ≤ sz.toInt ∧ sz.toInt ≤ 40 from ⟨by omega, hy7⟩), trivial⟩, zRet ht hP hD [0, 1, 2, 3] (by decide) rfl⟩, hS.F ht⟩) hS.2.2 dX0_closeInTruth_111
    · exfalso; have fc_3 : i_8.toInt < sz.toInt := zf_nle c_3 rfl rfl; omega
  | succ nfu ih =>
    intro i_8 v_2 v_1 H locs ls hP hD hS hl hbv_1 hloi_8 hni_8
    refine lv_iload_n hx hb dX0_closeInTruth_8 rfl (lv_at hl 0 rfl) ?_
    refine lv_aload_n hx hb dX0_closeInTruth_9 rfl (lv_at hl 1 rfl) ?_
    refine va_get (D := D) (ci := 0) (v := .ref z0) (C := RX0) (T := TX0) (N := 9) hx hb hts hi_X0_closeInTruth_0 hown hK hP 0 rfl rfl 0 (by decide) (hts (.fieldLink RX0 12 "TheLiningsInIt$Jacket" "zip" "LTheLiningsInIt$Zip;") (List.mem_of_getElem? (i := 1) rfl)) (fun _ h9 => h9) rfl dX0_closeInTruth_10 ?_
    refine va_get (D := D) (ci := 6) (v := .int sz) (C := RX6) (T := TX6) (N := 5) hx hb hts hi_X0_closeInTruth_6 hown hK hP 1 rfl rfl 2 (by decide) (hts (.fieldLink RX0 57 "TheLiningsInIt$Zip" "size" "I") (List.mem_of_getElem? (i := 3) rfl)) (fun _ h9 => h9) rfl dX0_closeInTruth_13 ?_
    refine lv_icmp_ge (tgt := 97) hx hb dX0_closeInTruth_16 (by decide) (fun c_4 => ?_) (fun c_4 => ?_)
    · have fc_4 : sz.toInt ≤ i_8.toInt := zf_le c_4 rfl rfl
      refine lv_aload_n hx hb dX0_closeInTruth_97 rfl (lv_at hl 1 rfl) ?_
      refine va_get (D := D) (ci := 0) (v := .ref z0) (C := RX0) (T := TX0) (N := 9) hx hb hts hi_X0_closeInTruth_0 hown hK hP 0 rfl rfl 0 (by decide) (hts (.fieldLink RX0 12 "TheLiningsInIt$Jacket" "zip" "LTheLiningsInIt$Zip;") (List.mem_of_getElem? (i := 1) rfl)) (fun _ h9 => h9) rfl dX0_closeInTruth_98 ?_
      refine lv_aload_n hx hb dX0_closeInTruth_101 rfl (lv_at hl 1 rfl) ?_
      refine va_get (D := D) (ci := 0) (v := .ref z0) (C := RX0) (T := TX0) (N := 9) hx hb hts hi_X0_closeInTruth_0 hown hK hP 0 rfl rfl 0 (by decide) (hts (.fieldLink RX0 12 "TheLiningsInIt$Jacket" "zip" "LTheLiningsInIt$Zip;") (List.mem_of_getElem? (i := 1) rfl)) (fun _ h9 => h9) rfl dX0_closeInTruth_102 ?_
      refine va_get (D := D) (ci := 6) (v := .int sz) (C := RX6) (T := TX6) (N := 5) hx hb hts hi_X0_closeInTruth_6 hown hK hP 1 rfl rfl 2 (by decide) (hts (.fieldLink RX0 57 "TheLiningsInIt$Zip" "size" "I") (List.mem_of_getElem? (i := 3) rfl)) (fun _ h9 => h9) rfl dX0_closeInTruth_105 ?_
      refine va_put (D := D) (ci := 6) (v := .int sz) (ty := .int) (C := RX6) (T := TX6) (N := 5) hx hb hts hi_X0_closeInTruth_6 tyX6 tyX6_ok nmX6 hown hK hP hD hS 1 rfl rfl 3 (by decide) (hts (.fieldLink RX0 63 "TheLiningsInIt$Zip" "at" "I") (List.mem_of_getElem? (i := 2) rfl)) (fun _ h9 => h9) rfl (tyX6_ok 3 (Nat.le_of_ble_eq_true rfl)) rfl rfl (Nat.le_of_ble_eq_true rfl) dX0_closeInTruth_108 (fun H locs hP hD hS => ?_)
      have h9R := zRe (ws' := [(j0, .inr (0, [.ref z0, .ref jp, .ref jc, .int cn, .int de, .int tr, .int se, .int hu, .int v_2])), (z0, .inr (6, [.ref zl, .ref zs, .int sz, .int sz, .int gp])), (zl, .inl (cZ, 40, .inl fl)), (zs, .inl (cI, 40, .inl fs))]) hP hD rfl
      clear hP hD
      obtain ⟨hP, hD⟩ := h9R
      exact W.vret hx hb hr (fun t ht hW => ⟨⟨(de, v_2, sz), rfl, ⟨(show 0 ≤ de.toInt ∧ de.toInt ≤ 24 from ⟨hy2, hy3⟩), (show 0 ≤ sz.toInt ∧ sz.toInt ≤ 40 from ⟨by omega, hy7⟩), trivial⟩, zRet ht hP hD [0, 1, 2, 3] (by decide) rfl⟩, hS.F ht⟩) hS.2.2 dX0_closeInTruth_111
    · have fc_4 : i_8.toInt < sz.toInt := zf_nle c_4 rfl rfl
      refine lv_aload_n hx hb dX0_closeInTruth_19 rfl (lv_at hl 1 rfl) ?_
      refine va_get (D := D) (ci := 0) (v := .ref z0) (C := RX0) (T := TX0) (N := 9) hx hb hts hi_X0_closeInTruth_0 hown hK hP 0 rfl rfl 0 (by decide) (hts (.fieldLink RX0 12 "TheLiningsInIt$Jacket" "zip" "LTheLiningsInIt$Zip;") (List.mem_of_getElem? (i := 1) rfl)) (fun _ h9 => h9) rfl dX0_closeInTruth_20 ?_
      refine lv_iload_n hx hb dX0_closeInTruth_23 rfl (lv_at hl 0 rfl) ?_
      refine va_put (D := D) (ci := 6) (v := .int i_8) (ty := .int) (C := RX6) (T := TX6) (N := 5) hx hb hts hi_X0_closeInTruth_6 tyX6 tyX6_ok nmX6 hown hK hP hD hS 1 rfl rfl 3 (by decide) (hts (.fieldLink RX0 63 "TheLiningsInIt$Zip" "at" "I") (List.mem_of_getElem? (i := 2) rfl)) (fun _ h9 => h9) rfl (tyX6_ok 3 (Nat.le_of_ble_eq_true rfl)) rfl rfl (Nat.le_of_ble_eq_true rfl) dX0_closeInTruth_24 (fun H locs hP hD hS => ?_)
      have h9R := zRe (ws' := [(j0, .inr (0, [.ref z0, .ref jp, .ref jc, .int cn, .int de, .int tr, .int se, .int hu, .int v_2])), (z0, .inr (6, [.ref zl, .ref zs, .int sz, .int i_8, .int gp])), (zl, .inl (cZ, 40, .inl fl)), (zs, .inl (cI, 40, .inl fs))]) hP hD rfl
      clear hP hD
      obtain ⟨hP, hD⟩ := h9R
      refine lv_aload_n hx hb dX0_closeInTruth_27 rfl (lv_at hl 1 rfl) ?_
      refine va_get (D := D) (ci := 0) (v := .ref z0) (C := RX0) (T := TX0) (N := 9) hx hb hts hi_X0_closeInTruth_0 hown hK hP 0 rfl rfl 0 (by decide) (hts (.fieldLink RX0 12 "TheLiningsInIt$Jacket" "zip" "LTheLiningsInIt$Zip;") (List.mem_of_getElem? (i := 1) rfl)) (fun _ h9 => h9) rfl dX0_closeInTruth_28 ?_
      refine lv_iload_n hx hb dX0_closeInTruth_31 rfl (lv_at hl 0 rfl) ?_
      refine zc_V (As := [.int i_8]) (rest := []) ⟨hx, hb, hml, hown, hts⟩ (c_Zip_catchesAt l D cI cJ cZ cP cS po z0 zl zs (sz) (i_8) (gp) fl fs (i_8) hy6 hy7 (by omega) (by omega) hy10 hy11 hp_fl hp_fs) (cwV 1 hts gX0_closeInTruth_X6_catchesAt rfl rfl rfl ⟨rfl, dh_X6_catchesAt⟩ ⟨Nat.le_of_ble_eq_true rfl, Nat.le_of_ble_eq_true rfl⟩) hK hN (hZ.kept hS) hP (hP.sub [1, 2, 3] rfl) (va_recv (q := (RX6, TX6, 5)) hK hP (ci := 6) (q0 := 1) rfl rfl) rfl hl.1 rfl (Nat.le_of_ble_eq_true rfl) dX0_closeInTruth_32 ⟨Nat.le_of_ble_eq_true rfl, Nat.le_of_ble_eq_true rfl⟩ (fun r_5 hr_5 => ?_)
      obtain ⟨g_6, g_7⟩ := hr_5
      refine lv_if_eq (tgt := 79) hx hb dX0_closeInTruth_35 (by decide) (fun c_8 => ?_) (fun c_8 => ?_)
      · have fc_8 : r_5.toInt = 0 := zf_eq c_8 rfl (by decide)
        refine lv_aload_n hx hb dX0_closeInTruth_79 rfl (lv_at hl 1 rfl) ?_
        refine va_get (D := D) (ci := 0) (v := .ref z0) (C := RX0) (T := TX0) (N := 9) hx hb hts hi_X0_closeInTruth_0 hown hK hP 0 rfl rfl 0 (by decide) (hts (.fieldLink RX0 12 "TheLiningsInIt$Jacket" "zip" "LTheLiningsInIt$Zip;") (List.mem_of_getElem? (i := 1) rfl)) (fun _ h9 => h9) rfl dX0_closeInTruth_80 ?_
        refine lv_iload_n hx hb dX0_closeInTruth_83 rfl (lv_at hl 0 rfl) ?_
        refine zc_V (As := [.int i_8]) (rest := []) ⟨hx, hb, hml, hown, hts⟩ (c_Zip_lacks3 l D cI cJ cZ cP cS po z0 zl zs (sz) (i_8) (gp) fl ((fun _ => 0)) (i_8) hy6 hy7 (by omega) (by omega) hy10 hy11 hp_fl) (cwV 1 hts gX0_closeInTruth_X6_lacksThreeFrom rfl rfl rfl ⟨rfl, dh_X6_lacksThreeFrom⟩ ⟨Nat.le_of_ble_eq_true rfl, Nat.le_of_ble_eq_true rfl⟩) hK hN (hZ.kept hS) hP (hP.sub [1, 2] rfl) (va_recv (q := (RX6, TX6, 5)) hK hP (ci := 6) (q0 := 1) rfl rfl) rfl hl.1 rfl (Nat.le_of_ble_eq_true rfl) dX0_closeInTruth_84 ⟨Nat.le_of_ble_eq_true rfl, Nat.le_of_ble_eq_true rfl⟩ (fun r_9 hr_9 => ?_)
        obtain ⟨g_10, g_11⟩ := hr_9
        refine lv_if_eq (tgt := 91) hx hb dX0_closeInTruth_87 (by decide) (fun c_12 => ?_) (fun c_12 => ?_)
        · have fc_12 : r_9.toInt = 0 := zf_eq c_12 rfl (by decide)
          obtain ⟨x_13, ex_13⟩ : ∃ y : Int32, y = i_8 + 1 := ⟨_, rfl⟩
          have qx_13 : x_13.toInt = i_8.toInt + 1 := dw_inc ex_13 fc_4
          refine lv_iinc (v := x_13) (lv' := [(1, .int x_13), (0, .ref j0)]) hx hb dX0_closeInTruth_91 hl (k := 0) rfl ex_13.symm (by decide) rfl (fun ls hl => ?_)
          refine lv_goto (tgt := 8) hx hb dX0_closeInTruth_94 (by decide) ?_
          exact ih x_13 (v_2) (i_8) _ _ _ (hP.sub [0, 1, 2, 3] rfl) (hD.sub [0, 1, 2, 3] (by decide) rfl) hS (lv_sub hl [0, 1] rfl) ⟨by omega, by omega⟩ (dw_lo hloi_8 qx_13) (dw_hn hni_8 qx_13)
        · have fc_12 : r_9.toInt ≠ 0 := zf_ne c_12 rfl (by decide)
          exact W.vret hx hb hr (fun t ht hW => ⟨⟨(de, v_2, i_8), rfl, ⟨(show 0 ≤ de.toInt ∧ de.toInt ≤ 24 from ⟨hy2, hy3⟩), (show 0 ≤ i_8.toInt ∧ i_8.toInt ≤ 40 from ⟨by omega, by omega⟩), trivial⟩, zRet ht hP hD [0, 1, 2, 3] (by decide) rfl⟩, hS.F ht⟩) hS.2.2 dX0_closeInTruth_90
      · have fc_8 : r_5.toInt ≠ 0 := zf_ne c_8 rfl (by decide)
        refine lv_aload_n hx hb dX0_closeInTruth_38 rfl (lv_at hl 1 rfl) ?_
        refine lv_bipush (v := 10) hx hb dX0_closeInTruth_39 (by decide) ?_
        skip
        refine zw_V (As := [.int 10]) (rest := []) (wr := [(z0, .inr (6, [.ref zl, .ref zs, .int sz, .int i_8, .int gp])), (zl, .inl (cZ, 40, .inl fl)), (zs, .inl (cI, 40, .inl fs))]) ⟨hx, hb, hml, hown, hts⟩ (c_J_draw_10 l D cI cJ cZ cP cS po j0 jp jc z0 0 0 (cn) (de) (tr) (se) (hu) (v_2) hy0 hy1 hy2 hy3 hy4 hy5 H.size) (cwV 1 hts gX0_closeInTruth_X0_draw rfl rfl rfl ⟨rfl, dh_X0_draw⟩ ⟨Nat.le_of_ble_eq_true rfl, Nat.le_of_ble_eq_true rfl⟩) hK hN (hZ.kept hS) hP hD hS hA [0] [1, 2, 3] rfl rfl (by decide) (by decide) (by decide) (va_recv (q := (RX0, TX0, 9)) hK hP (ci := 0) (q0 := 0) rfl rfl) rfl hl.1 rfl (Nat.le_of_ble_eq_true rfl) dX0_closeInTruth_41 ⟨Nat.le_of_ble_eq_true rfl, Nat.le_of_ble_eq_true rfl⟩ (fun r_14 u_15 H locs hr_14 hP hD hS => ?_)
        obtain ⟨q_16, rfl⟩ : ∃ z, z = u_15 := ⟨_, rfl⟩
        have h9R := zRe (ws' := [(z0, .inr (6, [.ref zl, .ref zs, .int sz, .int i_8, .int gp])), (zl, .inl (cZ, 40, .inl fl)), (zs, .inl (cI, 40, .inl fs)), (j0, .inr (0, [.ref z0, .ref jp, .ref jc, .int cn, .int de, .int tr, .int se, .int hu, .int q_16]))]) hP hD rfl
        clear hP hD
        obtain ⟨hP, hD⟩ := h9R
        obtain ⟨g_17, g_18⟩ := hr_14
        refine lv_aload_n hx hb dX0_closeInTruth_44 rfl (lv_at hl 1 rfl) ?_
        refine va_get (D := D) (ci := 0) (v := .ref z0) (C := RX0) (T := TX0) (N := 9) hx hb hts hi_X0_closeInTruth_0 hown hK hP 3 rfl rfl 0 (by decide) (hts (.fieldLink RX0 12 "TheLiningsInIt$Jacket" "zip" "LTheLiningsInIt$Zip;") (List.mem_of_getElem? (i := 1) rfl)) (fun _ h9 => h9) rfl dX0_closeInTruth_45 ?_
        refine va_get (D := D) (ci := 6) (v := .ref zs) (C := RX6) (T := TX6) (N := 5) hx hb hts hi_X0_closeInTruth_6 hown hK hP 0 rfl rfl 1 (by decide) (hts (.fieldLink RX0 109 "TheLiningsInIt$Zip" "slacks" "[I") (List.mem_of_getElem? (i := 4) rfl)) (fun _ h9 => h9) rfl dX0_closeInTruth_48 ?_
        refine lv_iload_n hx hb dX0_closeInTruth_51 rfl (lv_at hl 0 rfl) ?_
        refine va_iald hx hb hK hP 2 0 rfl rfl (zf_in (by omega) (by omega)) dX0_closeInTruth_52 ?_
        refine lv_topi (fun x_19 ex_19 => ?_)
        have bx_19 : 0 ≤ x_19.toInt ∧ x_19.toInt ≤ 9 := by rw [ex_19]; exact hp_fs _
        refine lv_aload_n hx hb dX0_closeInTruth_53 rfl (lv_at hl 1 rfl) ?_
        refine va_get (D := D) (ci := 0) (v := .ref z0) (C := RX0) (T := TX0) (N := 9) hx hb hts hi_X0_closeInTruth_0 hown hK hP 3 rfl rfl 0 (by decide) (hts (.fieldLink RX0 12 "TheLiningsInIt$Jacket" "zip" "LTheLiningsInIt$Zip;") (List.mem_of_getElem? (i := 1) rfl)) (fun _ h9 => h9) rfl dX0_closeInTruth_54 ?_
        refine va_get (D := D) (ci := 6) (v := .int gp) (C := RX6) (T := TX6) (N := 5) hx hb hts hi_X0_closeInTruth_6 hown hK hP 0 rfl rfl 4 (by decide) (hts (.fieldLink RX0 60 "TheLiningsInIt$Zip" "gap" "I") (List.mem_of_getElem? (i := 5) rfl)) (fun _ h9 => h9) rfl dX0_closeInTruth_57 ?_
        refine lv_isub hx hb dX0_closeInTruth_60 ?_
        refine lv_topi (fun x_20 ex_20 => ?_)
        have qx_20 : x_20.toInt = x_19.toInt - gp.toInt := by rw [ex_20]; exact zf_sub rfl rfl (by omega) (by omega)
        refine lv_iconst (v := 1) hx hb dX0_closeInTruth_61 (by decide) ?_
        refine lv_iadd hx hb dX0_closeInTruth_62 ?_
        refine lv_topi (fun x_21 ex_21 => ?_)
        have qx_21 : x_21.toInt = x_20.toInt + 1 := by rw [ex_21]; exact zf_add rfl (by decide) (by omega) (by omega)
        refine lv_icmp_ge (tgt := 79) hx hb dX0_closeInTruth_63 (by decide) (fun c_22 => ?_) (fun c_22 => ?_)
        · have fc_22 : x_21.toInt ≤ r_14.toInt := zf_le c_22 rfl rfl
          refine lv_aload_n hx hb dX0_closeInTruth_79 rfl (lv_at hl 1 rfl) ?_
          refine va_get (D := D) (ci := 0) (v := .ref z0) (C := RX0) (T := TX0) (N := 9) hx hb hts hi_X0_closeInTruth_0 hown hK hP 3 rfl rfl 0 (by decide) (hts (.fieldLink RX0 12 "TheLiningsInIt$Jacket" "zip" "LTheLiningsInIt$Zip;") (List.mem_of_getElem? (i := 1) rfl)) (fun _ h9 => h9) rfl dX0_closeInTruth_80 ?_
          refine lv_iload_n hx hb dX0_closeInTruth_83 rfl (lv_at hl 0 rfl) ?_
          refine zc_V (As := [.int i_8]) (rest := []) ⟨hx, hb, hml, hown, hts⟩ (c_Zip_lacks3 l D cI cJ cZ cP cS po z0 zl zs (sz) (i_8) (gp) fl ((fun _ => 0)) (i_8) hy6 hy7 (by omega) (by omega) hy10 hy11 hp_fl) (cwV 1 hts gX0_closeInTruth_X6_lacksThreeFrom rfl rfl rfl ⟨rfl, dh_X6_lacksThreeFrom⟩ ⟨Nat.le_of_ble_eq_true rfl, Nat.le_of_ble_eq_true rfl⟩) hK hN (hZ.kept hS) hP (hP.sub [0, 1] rfl) (va_recv (q := (RX6, TX6, 5)) hK hP (ci := 6) (q0 := 0) rfl rfl) rfl hl.1 rfl (Nat.le_of_ble_eq_true rfl) dX0_closeInTruth_84 ⟨Nat.le_of_ble_eq_true rfl, Nat.le_of_ble_eq_true rfl⟩ (fun r_23 hr_23 => ?_)
          obtain ⟨g_24, g_25⟩ := hr_23
          refine lv_if_eq (tgt := 91) hx hb dX0_closeInTruth_87 (by decide) (fun c_26 => ?_) (fun c_26 => ?_)
          · have fc_26 : r_23.toInt = 0 := zf_eq c_26 rfl (by decide)
            obtain ⟨x_27, ex_27⟩ : ∃ y : Int32, y = i_8 + 1 := ⟨_, rfl⟩
            have qx_27 : x_27.toInt = i_8.toInt + 1 := dw_inc ex_27 fc_4
            refine lv_iinc (v := x_27) (lv' := [(1, .int x_27), (0, .ref j0)]) hx hb dX0_closeInTruth_91 hl (k := 0) rfl ex_27.symm (by decide) rfl (fun ls hl => ?_)
            refine lv_goto (tgt := 8) hx hb dX0_closeInTruth_94 (by decide) ?_
            exact ih x_27 (q_16) (i_8) _ _ _ (hP.sub [3, 0, 1, 2] rfl) (hD.sub [3, 0, 1, 2] (by decide) rfl) hS (lv_sub hl [0, 1] rfl) ⟨by omega, by omega⟩ (dw_lo hloi_8 qx_27) (dw_hn hni_8 qx_27)
          · have fc_26 : r_23.toInt ≠ 0 := zf_ne c_26 rfl (by decide)
            exact W.vret hx hb hr (fun t ht hW => ⟨⟨(de, q_16, i_8), rfl, ⟨(show 0 ≤ de.toInt ∧ de.toInt ≤ 24 from ⟨hy2, hy3⟩), (show 0 ≤ i_8.toInt ∧ i_8.toInt ≤ 40 from ⟨by omega, by omega⟩), trivial⟩, zRet ht hP hD [3, 0, 1, 2] (by decide) rfl⟩, hS.F ht⟩) hS.2.2 dX0_closeInTruth_90
        · have fc_22 : r_14.toInt < x_21.toInt := zf_nle c_22 rfl rfl
          refine lv_aload_n hx hb dX0_closeInTruth_66 rfl (lv_at hl 1 rfl) ?_
          refine lv_iconst (v := 1) hx hb dX0_closeInTruth_67 (by decide) ?_
          refine lv_aload_n hx hb dX0_closeInTruth_68 rfl (lv_at hl 1 rfl) ?_
          refine lv_bipush (v := 6) hx hb dX0_closeInTruth_69 (by decide) ?_
          skip
          refine zw_V (As := [.int 6]) (rest := [.int 1, .ref j0]) (wr := [(z0, .inr (6, [.ref zl, .ref zs, .int sz, .int i_8, .int gp])), (zl, .inl (cZ, 40, .inl fl)), (zs, .inl (cI, 40, .inl fs))]) ⟨hx, hb, hml, hown, hts⟩ (c_J_draw_6 l D cI cJ cZ cP cS po j0 jp jc z0 0 0 (cn) (de) (tr) (se) (hu) (q_16) hy0 hy1 hy2 hy3 hy4 hy5 H.size) (cwV 1 hts gX0_closeInTruth_X0_draw rfl rfl rfl ⟨rfl, dh_X0_draw⟩ ⟨Nat.le_of_ble_eq_true rfl, Nat.le_of_ble_eq_true rfl⟩) hK hN (hZ.kept hS) hP hD hS hA [3] [0, 1, 2] rfl rfl (by decide) (by decide) (by decide) (va_recv (q := (RX0, TX0, 9)) hK hP (ci := 0) (q0 := 3) rfl rfl) rfl hl.1 rfl (Nat.le_of_ble_eq_true rfl) dX0_closeInTruth_71 ⟨Nat.le_of_ble_eq_true rfl, Nat.le_of_ble_eq_true rfl⟩ (fun r_28 u_29 H locs hr_28 hP hD hS => ?_)
          obtain ⟨q_30, rfl⟩ : ∃ z, z = u_29 := ⟨_, rfl⟩
          have h9R := zRe (ws' := [(z0, .inr (6, [.ref zl, .ref zs, .int sz, .int i_8, .int gp])), (zl, .inl (cZ, 40, .inl fl)), (zs, .inl (cI, 40, .inl fs)), (j0, .inr (0, [.ref z0, .ref jp, .ref jc, .int cn, .int de, .int tr, .int se, .int hu, .int q_30]))]) hP hD rfl
          clear hP hD
          obtain ⟨hP, hD⟩ := h9R
          obtain ⟨g_31, g_32⟩ := hr_28
          refine lv_iadd hx hb dX0_closeInTruth_74 ?_
          refine lv_topi (fun x_33 ex_33 => ?_)
          have qx_33 : x_33.toInt = 1 + r_28.toInt := by rw [ex_33]; exact zf_add (by decide) rfl (by omega) (by omega)
          refine va_put (D := D) (ci := 0) (v := .int x_33) (ty := .int) (C := RX0) (T := TX0) (N := 9) hx hb hts hi_X0_closeInTruth_0 tyX0 tyX0_ok nmX0 hown hK hP hD hS 3 rfl rfl 4 (by decide) (hts (.fieldLink RX0 32 "TheLiningsInIt$Jacket" "depth" "I") (List.mem_of_getElem? (i := 6) rfl)) (fun _ h9 => h9) rfl (tyX0_ok 4 (Nat.le_of_ble_eq_true rfl)) rfl rfl (Nat.le_of_ble_eq_true rfl) dX0_closeInTruth_75 (fun H locs hP hD hS => ?_)
          have h9R := zRe (ws' := [(z0, .inr (6, [.ref zl, .ref zs, .int sz, .int i_8, .int gp])), (zl, .inl (cZ, 40, .inl fl)), (zs, .inl (cI, 40, .inl fs)), (j0, .inr (0, [.ref z0, .ref jp, .ref jc, .int cn, .int x_33, .int tr, .int se, .int hu, .int q_30]))]) hP hD rfl
          clear hP hD
          obtain ⟨hP, hD⟩ := h9R
          exact W.vret hx hb hr (fun t ht hW => ⟨⟨(x_33, q_30, i_8), rfl, ⟨(show 0 ≤ x_33.toInt ∧ x_33.toInt ≤ 24 from ⟨by omega, by omega⟩), (show 0 ≤ i_8.toInt ∧ i_8.toInt ≤ 40 from ⟨by omega, by omega⟩), trivial⟩, zRet ht hP hD [3, 0, 1, 2] (by decide) rfl⟩, hS.F ht⟩) hS.2.2 dX0_closeInTruth_78
end
section
def wsX5_mayBeAt : List Cond := (.code yX5_mayBeAt cX5_mayBeAt 5 (some (.object "TheLiningsInIt$Pull"))) :: (.fieldLink RX5 23 "TheLiningsInIt$Ways" "pulls" "[LTheLiningsInIt$Pull;") :: (.static yX7_within) :: (.initialized RX7) :: (.code yX7_within cX7_within 3 (some .boolean)) :: (.methodLink RX5 75 yX2_mayBe) :: (.instanceMethod yX2_mayBe) :: (.selects RX2 yX2_mayBe yX2_mayBe) :: (.initialized RX2) :: (.code yX2_mayBe cX2_mayBe 3 (some .boolean)) :: (.fieldLink RX2 18 "TheLiningsInIt$Pull" "takes" "I") :: (wsX50 ++ wsX20)
def wsX5_most_r1 : List Cond := (Cond.fieldLink RX5 79 "TheLiningsInIt$Ways" "POWERS" "[I") :: (Cond.fieldLink RX5 34 "TheLiningsInIt$Ways" "longest" "I") :: (Cond.fieldLink RX5 9 "TheLiningsInIt$Ways" "knownMost" "[I") :: (Cond.fieldLink RX5 27 "TheLiningsInIt$Ways" "count" "I") :: (Cond.methodLink RX5 52 Lib.Math.max.name) :: (Cond.static Lib.Math.max.name) :: (Cond.initialized "java/lang/Math") :: (Cond.code Lib.Math.max.name Lib.Math.max.code 2 (some .int)) :: (Cond.methodLink RX5 82 yX5_mayBeAt) :: (Cond.instanceMethod yX5_mayBeAt) :: (Cond.selects RX5 yX5_mayBeAt yX5_mayBeAt) :: (Cond.initialized RX5) :: (Cond.code yX5_mayBeAt cX5_mayBeAt 5 (some (.object "TheLiningsInIt$Pull"))) :: (Cond.fieldLink RX5 23 "TheLiningsInIt$Ways" "pulls" "[LTheLiningsInIt$Pull;") :: (Cond.static yX7_within) :: (Cond.initialized RX7) :: (Cond.code yX7_within cX7_within 3 (some .boolean)) :: (Cond.methodLink RX5 75 yX2_mayBe) :: (Cond.instanceMethod yX2_mayBe) :: (Cond.selects RX2 yX2_mayBe yX2_mayBe) :: (Cond.initialized RX2) :: (Cond.code yX2_mayBe cX2_mayBe 3 (some .boolean)) :: (Cond.fieldLink RX2 18 "TheLiningsInIt$Pull" "takes" "I") :: (Cond.methodLink RX5 86 yX5_mostBy) :: []
def wsX5_most_r2 : List Cond := (Cond.instanceMethod yX5_mostBy) :: (Cond.selects RX5 yX5_mostBy yX5_mostBy) :: (Cond.code yX5_mostBy cX5_mostBy 8 (some .int)) :: (Cond.fieldLink RX5 31 "TheLiningsInIt$Ways" "hurry" "I") :: (Cond.fieldLink RX5 49 "TheLiningsInIt$Pull" "takes" "I") :: (Cond.methodLink RX5 90 yX2_waysAt) :: (Cond.instanceMethod yX2_waysAt) :: (Cond.selects RX2 yX2_waysAt yX2_waysAt) :: (Cond.code yX2_waysAt cX2_waysAt 3 (some .int)) :: (Cond.fieldLink RX2 9 "TheLiningsInIt$Pull" "kind" "I") :: (Cond.methodLink RX2 33 Lib.Math.min.name) :: (Cond.static Lib.Math.min.name) :: (Cond.code Lib.Math.min.name Lib.Math.min.code 2 (some .int)) :: (Cond.methodLink RX2 39 Lib.Math.max.name) :: (Cond.methodLink RX2 29 yX2_calmWaysAt) :: (Cond.instanceMethod yX2_calmWaysAt) :: (Cond.selects RX2 yX2_calmWaysAt yX2_calmWaysAt) :: (Cond.code yX2_calmWaysAt cX2_calmWaysAt 2 (some .int)) :: (Cond.fieldLink RX2 15 "TheLiningsInIt$Pull" "a" "I") :: (Cond.methodLink RX5 93 yX2_shallower) :: (Cond.instanceMethod yX2_shallower) :: (Cond.selects RX2 yX2_shallower yX2_shallower) :: (Cond.code yX2_shallower cX2_shallower 2 (some .int)) :: (Cond.methodLink RX2 42 yX2_step) :: []
def wsX5_most_r3 : List Cond := (Cond.instanceMethod yX2_step) :: (Cond.selects RX2 yX2_step yX2_step) :: (Cond.code yX2_step cX2_step 1 (some .int)) :: (Cond.methodLink RX5 97 yX5_most) :: (Cond.instanceMethod yX5_most) :: (Cond.selects RX5 yX5_most yX5_most) :: (Cond.methodLink RX5 101 yX2_deeper) :: (Cond.instanceMethod yX2_deeper) :: (Cond.selects RX2 yX2_deeper yX2_deeper) :: (Cond.code yX2_deeper cX2_deeper 4 (some .int)) :: []
def wsX5_most : List Cond := (.code yX5_most cX5_most 9 (some .int)) :: ((wsX5_most_r1 ++ (wsX5_most_r2 ++ wsX5_most_r3)) ++ wsX50 ++ wsX20)
def wsX5_mostBy_r1 : List Cond := (Cond.fieldLink RX5 31 "TheLiningsInIt$Ways" "hurry" "I") :: (Cond.fieldLink RX5 49 "TheLiningsInIt$Pull" "takes" "I") :: (Cond.methodLink RX5 90 yX2_waysAt) :: (Cond.instanceMethod yX2_waysAt) :: (Cond.selects RX2 yX2_waysAt yX2_waysAt) :: (Cond.initialized RX2) :: (Cond.code yX2_waysAt cX2_waysAt 3 (some .int)) :: (Cond.fieldLink RX2 9 "TheLiningsInIt$Pull" "kind" "I") :: (Cond.methodLink RX2 33 Lib.Math.min.name) :: (Cond.static Lib.Math.min.name) :: (Cond.initialized "java/lang/Math") :: (Cond.code Lib.Math.min.name Lib.Math.min.code 2 (some .int)) :: (Cond.methodLink RX2 39 Lib.Math.max.name) :: (Cond.static Lib.Math.max.name) :: (Cond.code Lib.Math.max.name Lib.Math.max.code 2 (some .int)) :: (Cond.methodLink RX2 29 yX2_calmWaysAt) :: (Cond.instanceMethod yX2_calmWaysAt) :: (Cond.selects RX2 yX2_calmWaysAt yX2_calmWaysAt) :: (Cond.code yX2_calmWaysAt cX2_calmWaysAt 2 (some .int)) :: (Cond.fieldLink RX2 15 "TheLiningsInIt$Pull" "a" "I") :: (Cond.methodLink RX5 93 yX2_shallower) :: (Cond.instanceMethod yX2_shallower) :: (Cond.selects RX2 yX2_shallower yX2_shallower) :: (Cond.code yX2_shallower cX2_shallower 2 (some .int)) :: []
def wsX5_mostBy_r2 : List Cond := (Cond.methodLink RX2 42 yX2_step) :: (Cond.instanceMethod yX2_step) :: (Cond.selects RX2 yX2_step yX2_step) :: (Cond.code yX2_step cX2_step 1 (some .int)) :: (Cond.methodLink RX5 97 yX5_most) :: (Cond.instanceMethod yX5_most) :: (Cond.selects RX5 yX5_most yX5_most) :: (Cond.initialized RX5) :: (Cond.methodLink RX5 101 yX2_deeper) :: (Cond.instanceMethod yX2_deeper) :: (Cond.selects RX2 yX2_deeper yX2_deeper) :: (Cond.code yX2_deeper cX2_deeper 4 (some .int)) :: (Cond.code yX5_most cX5_most 9 (some .int)) :: (Cond.fieldLink RX5 79 "TheLiningsInIt$Ways" "POWERS" "[I") :: (Cond.fieldLink RX5 34 "TheLiningsInIt$Ways" "longest" "I") :: (Cond.fieldLink RX5 9 "TheLiningsInIt$Ways" "knownMost" "[I") :: (Cond.fieldLink RX5 27 "TheLiningsInIt$Ways" "count" "I") :: (Cond.methodLink RX5 52 Lib.Math.max.name) :: (Cond.methodLink RX5 82 yX5_mayBeAt) :: (Cond.instanceMethod yX5_mayBeAt) :: (Cond.selects RX5 yX5_mayBeAt yX5_mayBeAt) :: (Cond.code yX5_mayBeAt cX5_mayBeAt 5 (some (.object "TheLiningsInIt$Pull"))) :: (Cond.fieldLink RX5 23 "TheLiningsInIt$Ways" "pulls" "[LTheLiningsInIt$Pull;") :: (Cond.static yX7_within) :: []
def wsX5_mostBy_r3 : List Cond := (Cond.initialized RX7) :: (Cond.code yX7_within cX7_within 3 (some .boolean)) :: (Cond.methodLink RX5 75 yX2_mayBe) :: (Cond.instanceMethod yX2_mayBe) :: (Cond.selects RX2 yX2_mayBe yX2_mayBe) :: (Cond.code yX2_mayBe cX2_mayBe 3 (some .boolean)) :: (Cond.fieldLink RX2 18 "TheLiningsInIt$Pull" "takes" "I") :: (Cond.methodLink RX5 86 yX5_mostBy) :: (Cond.instanceMethod yX5_mostBy) :: (Cond.selects RX5 yX5_mostBy yX5_mostBy) :: []
def wsX5_mostBy : List Cond := (.code yX5_mostBy cX5_mostBy 8 (some .int)) :: ((wsX5_mostBy_r1 ++ (wsX5_mostBy_r2 ++ wsX5_mostBy_r3)) ++ wsX50 ++ wsX20)
def wsX5_headIsCheapest : List Cond := (.code yX5_headIsCheapest cX5_headIsCheapest 2 (some .boolean)) :: (.fieldLink RX5 18 "TheLiningsInIt$Ways" "costs" "[I") :: wsX50
def wsX5_leastAtOnce : List Cond := (.code yX5_leastAtOnce cX5_leastAtOnce 3 (some .int)) :: (.fieldLink RX5 79 "TheLiningsInIt$Ways" "POWERS" "[I") :: (.fieldLink RX5 18 "TheLiningsInIt$Ways" "costs" "[I") :: (.methodLink RX5 113 yX5_headIsCheapest) :: (.instanceMethod yX5_headIsCheapest) :: (.selects RX5 yX5_headIsCheapest yX5_headIsCheapest) :: (.initialized RX5) :: (.code yX5_headIsCheapest cX5_headIsCheapest 2 (some .boolean)) :: wsX50
set_option maxRecDepth 20000 in
theorem ggX5_mayBeAt_X7_within : GoodIn wsX5_mayBeAt wsX7_within := (dg_c 4 rfl rfl dg_0)
set_option maxRecDepth 20000 in
theorem gX5_mayBeAt_X7_within_n71 : GoodIn wsX5_mayBeAt (wsX7_within) := ggX5_mayBeAt_X7_within
set_option maxRecDepth 20000 in
theorem gl_X5_mayBeAt_X20 : GoodIn wsX5_mayBeAt wsX20 := (dg_t (dg_t (dg_t (dg_t (dg_t (dg_t (dg_t (dg_t (dg_t (dg_t (dg_t (dg_r gw_wsX20))))))))))))
theorem ggX5_mayBeAt_X2_mayBe : GoodIn wsX5_mayBeAt wsX2_mayBe := (dg_c 9 rfl rfl (dg_c 10 rfl rfl gl_X5_mayBeAt_X20))
set_option maxRecDepth 20000 in
theorem gX5_mayBeAt_X2_mayBe : GoodIn wsX5_mayBeAt (wsV RX5 75 RX2 yX2_mayBe wsX2_mayBe) := goodIn_app (dg_c 5 rfl rfl (dg_c 6 rfl rfl (dg_c 7 rfl rfl (dg_c 8 rfl rfl dg_0)))) ggX5_mayBeAt_X2_mayBe
theorem dX5_mayBeAt_0 : decode cX5_mayBeAt 0 = .ok (.iload_n 1, 1) := dq_27 dp_cX5_mayBeAt rfl
theorem dX5_mayBeAt_1 : decode cX5_mayBeAt 1 = .ok (.iconst 0, 1) := dq_3 dp_cX5_mayBeAt rfl
theorem dX5_mayBeAt_2 : decode cX5_mayBeAt 2 = .ok (.bipush 7, 2) := dq_16 (v := 7) dp_cX5_mayBeAt rfl rfl
theorem dX5_mayBeAt_4 : decode cX5_mayBeAt 4 = .ok (.invokestatic 71, 3) := dq_184 dp_cX5_mayBeAt rfl
theorem dX5_mayBeAt_7 : decode cX5_mayBeAt 7 = .ok (.ifCond .eq 12, 3) := dq_153 (v := 12) dp_cX5_mayBeAt rfl rfl
theorem dX5_mayBeAt_10 : decode cX5_mayBeAt 10 = .ok (.aload_n 0, 1) := dq_42 dp_cX5_mayBeAt rfl
theorem dX5_mayBeAt_11 : decode cX5_mayBeAt 11 = .ok (.getfield 23, 3) := dq_180 dp_cX5_mayBeAt rfl
theorem dX5_mayBeAt_14 : decode cX5_mayBeAt 14 = .ok (.iload_n 1, 1) := dq_27 dp_cX5_mayBeAt rfl
theorem dX5_mayBeAt_15 : decode cX5_mayBeAt 15 = .ok (.aaload, 1) := dq_50 dp_cX5_mayBeAt rfl
theorem dX5_mayBeAt_16 : decode cX5_mayBeAt 16 = .ok (.goto 4, 3) := dq_167 (v := 4) dp_cX5_mayBeAt rfl rfl
theorem dX5_mayBeAt_19 : decode cX5_mayBeAt 19 = .ok (.aconst_null, 1) := dq_1 dp_cX5_mayBeAt rfl
theorem dX5_mayBeAt_20 : decode cX5_mayBeAt 20 = .ok (.astore 4, 2) := dq_58 dp_cX5_mayBeAt rfl
theorem dX5_mayBeAt_22 : decode cX5_mayBeAt 22 = .ok (.aload 4, 2) := dq_25 dp_cX5_mayBeAt rfl
theorem dX5_mayBeAt_24 : decode cX5_mayBeAt 24 = .ok (.ifnull 18, 3) := dq_198 (v := 18) dp_cX5_mayBeAt rfl rfl
theorem dX5_mayBeAt_27 : decode cX5_mayBeAt 27 = .ok (.aload 4, 2) := dq_25 dp_cX5_mayBeAt rfl
theorem dX5_mayBeAt_29 : decode cX5_mayBeAt 29 = .ok (.iload_n 2, 1) := dq_28 dp_cX5_mayBeAt rfl
theorem dX5_mayBeAt_30 : decode cX5_mayBeAt 30 = .ok (.iload_n 3, 1) := dq_29 dp_cX5_mayBeAt rfl
theorem dX5_mayBeAt_31 : decode cX5_mayBeAt 31 = .ok (.invokevirtual 75, 3) := dq_182 dp_cX5_mayBeAt rfl
theorem dX5_mayBeAt_34 : decode cX5_mayBeAt 34 = .ok (.ifCond .eq 8, 3) := dq_153 (v := 8) dp_cX5_mayBeAt rfl rfl
theorem dX5_mayBeAt_37 : decode cX5_mayBeAt 37 = .ok (.aload 4, 2) := dq_25 dp_cX5_mayBeAt rfl
theorem dX5_mayBeAt_39 : decode cX5_mayBeAt 39 = .ok (.goto 4, 3) := dq_167 (v := 4) dp_cX5_mayBeAt rfl rfl
theorem dX5_mayBeAt_42 : decode cX5_mayBeAt 42 = .ok (.aconst_null, 1) := dq_1 dp_cX5_mayBeAt rfl
theorem dX5_mayBeAt_43 : decode cX5_mayBeAt 43 = .ok (.areturn, 1) := dq_176 dp_cX5_mayBeAt rfl
set_option maxRecDepth 20000 in
theorem gl_X5_most_X50 : GoodIn wsX5_most wsX50 := (dg_t (dg_l (dg_r gw_wsX50)))
theorem gl_X5_most_X20 : GoodIn wsX5_most wsX20 := (dg_t (dg_r gw_wsX20))
theorem ggX5_most_X5_mayBeAt : GoodIn wsX5_most wsX5_mayBeAt := (dg_c 13 rfl rfl (dg_c 14 rfl rfl (dg_c 15 rfl rfl (dg_c 16 rfl rfl (dg_c 17 rfl rfl (dg_c 18 rfl rfl (dg_c 19 rfl rfl (dg_c 20 rfl rfl (dg_c 21 rfl rfl (dg_c 22 rfl rfl (dg_c 23 rfl rfl (goodIn_app gl_X5_most_X50 gl_X5_most_X20))))))))))))
set_option maxRecDepth 20000 in
theorem gX5_most_X5_mayBeAt : GoodIn wsX5_most (wsV RX5 82 RX5 yX5_mayBeAt wsX5_mayBeAt) := goodIn_app (dg_c 9 rfl rfl (dg_c 10 rfl rfl (dg_c 11 rfl rfl (dg_c 12 rfl rfl dg_0)))) ggX5_most_X5_mayBeAt
set_option maxRecDepth 20000 in
theorem ggX5_most_X5_mostBy : GoodIn wsX5_most wsX5_mostBy := (dg_c 27 rfl rfl (goodIn_app (goodIn_app (goodIn_app (dg_c 28 rfl rfl (dg_c 29 rfl rfl (dg_c 30 rfl rfl (dg_c 31 rfl rfl (dg_c 32 rfl rfl (dg_c 21 rfl rfl (dg_c 33 rfl rfl (dg_c 34 rfl rfl (dg_c 35 rfl rfl (dg_c 36 rfl rfl (dg_c 7 rfl rfl (dg_c 37 rfl rfl (dg_c 38 rfl rfl (dg_c 6 rfl rfl (dg_c 8 rfl rfl (dg_c 39 rfl rfl (dg_c 40 rfl rfl (dg_c 41 rfl rfl (dg_c 42 rfl rfl (dg_c 43 rfl rfl (dg_c 44 rfl rfl (dg_c 45 rfl rfl (dg_c 46 rfl rfl (dg_c 47 rfl rfl dg_0)))))))))))))))))))))))) (goodIn_app (dg_c 48 rfl rfl (dg_c 49 rfl rfl (dg_c 50 rfl rfl (dg_c 51 rfl rfl (dg_c 52 rfl rfl (dg_c 53 rfl rfl (dg_c 54 rfl rfl (dg_c 12 rfl rfl (dg_c 55 rfl rfl (dg_c 56 rfl rfl (dg_c 57 rfl rfl (dg_c 58 rfl rfl (dg_c 0 rfl rfl (dg_c 1 rfl rfl (dg_c 2 rfl rfl (dg_c 3 rfl rfl (dg_c 4 rfl rfl (dg_c 5 rfl rfl (dg_c 9 rfl rfl (dg_c 10 rfl rfl (dg_c 11 rfl rfl (dg_c 13 rfl rfl (dg_c 14 rfl rfl (dg_c 15 rfl rfl dg_0)))))))))))))))))))))))) (dg_c 16 rfl rfl (dg_c 17 rfl rfl (dg_c 18 rfl rfl (dg_c 19 rfl rfl (dg_c 20 rfl rfl (dg_c 22 rfl rfl (dg_c 23 rfl rfl (dg_c 24 rfl rfl (dg_c 25 rfl rfl (dg_c 26 rfl rfl dg_0)))))))))))) gl_X5_most_X50) gl_X5_most_X20))
set_option maxRecDepth 20000 in
theorem gX5_most_X5_mostBy : GoodIn wsX5_most (wsV RX5 86 RX5 yX5_mostBy wsX5_mostBy) := goodIn_app (dg_c 24 rfl rfl (dg_c 25 rfl rfl (dg_c 26 rfl rfl (dg_c 12 rfl rfl dg_0)))) ggX5_most_X5_mostBy
theorem dX5_most_0 : decode cX5_most 0 = .ok (.iload_n 1, 1) := dq_27 dp_cX5_most rfl
theorem dX5_most_1 : decode cX5_most 1 = .ok (.ifCond .lt 18, 3) := dq_155 (v := 18) dp_cX5_most rfl rfl
theorem dX5_most_4 : decode cX5_most 4 = .ok (.iload_n 1, 1) := dq_27 dp_cX5_most rfl
theorem dX5_most_5 : decode cX5_most 5 = .ok (.iconst 4, 1) := dq_7 dp_cX5_most rfl
theorem dX5_most_6 : decode cX5_most 6 = .ok (.if_icmp .gt 13, 3) := dq_163 (v := 13) dp_cX5_most rfl rfl
theorem dX5_most_9 : decode cX5_most 9 = .ok (.iload_n 2, 1) := dq_28 dp_cX5_most rfl
theorem dX5_most_10 : decode cX5_most 10 = .ok (.ifCond .lt 9, 3) := dq_155 (v := 9) dp_cX5_most rfl rfl
theorem dX5_most_13 : decode cX5_most 13 = .ok (.iload_n 2, 1) := dq_28 dp_cX5_most rfl
theorem dX5_most_14 : decode cX5_most 14 = .ok (.bipush 24, 2) := dq_16 (v := 24) dp_cX5_most rfl rfl
theorem dX5_most_16 : decode cX5_most 16 = .ok (.if_icmp .le 5, 3) := dq_164 (v := 5) dp_cX5_most rfl rfl
theorem dX5_most_21 : decode cX5_most 21 = .ok (.iload_n 2, 1) := dq_28 dp_cX5_most rfl
theorem dX5_most_22 : decode cX5_most 22 = .ok (.ifCond .eq 7, 3) := dq_153 (v := 7) dp_cX5_most rfl rfl
theorem dX5_most_25 : decode cX5_most 25 = .ok (.iload_n 1, 1) := dq_27 dp_cX5_most rfl
theorem dX5_most_26 : decode cX5_most 26 = .ok (.ifCond .ne 17, 3) := dq_154 (v := 17) dp_cX5_most rfl rfl
theorem dX5_most_29 : decode cX5_most 29 = .ok (.iload_n 2, 1) := dq_28 dp_cX5_most rfl
theorem dX5_most_30 : decode cX5_most 30 = .ok (.ifCond .ne 11, 3) := dq_154 (v := 11) dp_cX5_most rfl rfl
theorem dX5_most_33 : decode cX5_most 33 = .ok (.getstatic 79, 3) := dq_178 dp_cX5_most rfl
theorem dX5_most_36 : decode cX5_most 36 = .ok (.iload_n 1, 1) := dq_27 dp_cX5_most rfl
theorem dX5_most_37 : decode cX5_most 37 = .ok (.iaload, 1) := dq_46 dp_cX5_most rfl
theorem dX5_most_38 : decode cX5_most 38 = .ok (.goto 4, 3) := dq_167 (v := 4) dp_cX5_most rfl rfl
theorem dX5_most_41 : decode cX5_most 41 = .ok (.iconst 0, 1) := dq_3 dp_cX5_most rfl
theorem dX5_most_42 : decode cX5_most 42 = .ok (.ireturn, 1) := dq_172 dp_cX5_most rfl
theorem dX5_most_43 : decode cX5_most 43 = .ok (.iload_n 3, 1) := dq_29 dp_cX5_most rfl
theorem dX5_most_44 : decode cX5_most 44 = .ok (.iload_n 1, 1) := dq_27 dp_cX5_most rfl
theorem dX5_most_45 : decode cX5_most 45 = .ok (.aload_n 0, 1) := dq_42 dp_cX5_most rfl
theorem dX5_most_46 : decode cX5_most 46 = .ok (.getfield 34, 3) := dq_180 dp_cX5_most rfl
theorem dX5_most_49 : decode cX5_most 49 = .ok (.imul, 1) := dq_104 dp_cX5_most rfl
theorem dX5_most_50 : decode cX5_most 50 = .ok (.if_icmp .lt 7, 3) := dq_161 (v := 7) dp_cX5_most rfl rfl
theorem dX5_most_53 : decode cX5_most 53 = .ok (.iconst 1, 1) := dq_4 dp_cX5_most rfl
theorem dX5_most_54 : decode cX5_most 54 = .ok (.goto 4, 3) := dq_167 (v := 4) dp_cX5_most rfl rfl
theorem dX5_most_57 : decode cX5_most 57 = .ok (.iconst 0, 1) := dq_3 dp_cX5_most rfl
theorem dX5_most_58 : decode cX5_most 58 = .ok (.istore 4, 2) := dq_54 dp_cX5_most rfl
theorem dX5_most_60 : decode cX5_most 60 = .ok (.iload_n 1, 1) := dq_27 dp_cX5_most rfl
theorem dX5_most_61 : decode cX5_most 61 = .ok (.bipush 25, 2) := dq_16 (v := 25) dp_cX5_most rfl rfl
theorem dX5_most_63 : decode cX5_most 63 = .ok (.imul, 1) := dq_104 dp_cX5_most rfl
theorem dX5_most_64 : decode cX5_most 64 = .ok (.iload_n 2, 1) := dq_28 dp_cX5_most rfl
theorem dX5_most_65 : decode cX5_most 65 = .ok (.iadd, 1) := dq_96 dp_cX5_most rfl
theorem dX5_most_66 : decode cX5_most 66 = .ok (.istore 5, 2) := dq_54 dp_cX5_most rfl
theorem dX5_most_68 : decode cX5_most 68 = .ok (.iload 4, 2) := dq_21 dp_cX5_most rfl
theorem dX5_most_70 : decode cX5_most 70 = .ok (.ifCond .eq 22, 3) := dq_153 (v := 22) dp_cX5_most rfl rfl
theorem dX5_most_73 : decode cX5_most 73 = .ok (.aload_n 0, 1) := dq_42 dp_cX5_most rfl
theorem dX5_most_74 : decode cX5_most 74 = .ok (.getfield 9, 3) := dq_180 dp_cX5_most rfl
theorem dX5_most_77 : decode cX5_most 77 = .ok (.iload 5, 2) := dq_21 dp_cX5_most rfl
theorem dX5_most_79 : decode cX5_most 79 = .ok (.iaload, 1) := dq_46 dp_cX5_most rfl
theorem dX5_most_80 : decode cX5_most 80 = .ok (.iconst (-1), 1) := dq_2 dp_cX5_most rfl
theorem dX5_most_81 : decode cX5_most 81 = .ok (.if_icmp .eq 11, 3) := dq_159 (v := 11) dp_cX5_most rfl rfl
theorem dX5_most_84 : decode cX5_most 84 = .ok (.aload_n 0, 1) := dq_42 dp_cX5_most rfl
theorem dX5_most_85 : decode cX5_most 85 = .ok (.getfield 9, 3) := dq_180 dp_cX5_most rfl
theorem dX5_most_88 : decode cX5_most 88 = .ok (.iload 5, 2) := dq_21 dp_cX5_most rfl
theorem dX5_most_90 : decode cX5_most 90 = .ok (.iaload, 1) := dq_46 dp_cX5_most rfl
theorem dX5_most_91 : decode cX5_most 91 = .ok (.ireturn, 1) := dq_172 dp_cX5_most rfl
theorem dX5_most_92 : decode cX5_most 92 = .ok (.iconst 0, 1) := dq_3 dp_cX5_most rfl
theorem dX5_most_93 : decode cX5_most 93 = .ok (.istore 6, 2) := dq_54 dp_cX5_most rfl
theorem dX5_most_95 : decode cX5_most 95 = .ok (.iconst 0, 1) := dq_3 dp_cX5_most rfl
theorem dX5_most_96 : decode cX5_most 96 = .ok (.istore 7, 2) := dq_54 dp_cX5_most rfl
theorem dX5_most_98 : decode cX5_most 98 = .ok (.iload 7, 2) := dq_21 dp_cX5_most rfl
theorem dX5_most_100 : decode cX5_most 100 = .ok (.aload_n 0, 1) := dq_42 dp_cX5_most rfl
theorem dX5_most_101 : decode cX5_most 101 = .ok (.getfield 27, 3) := dq_180 dp_cX5_most rfl
theorem dX5_most_104 : decode cX5_most 104 = .ok (.if_icmp .ge 40, 3) := dq_162 (v := 40) dp_cX5_most rfl rfl
theorem dX5_most_107 : decode cX5_most 107 = .ok (.aload_n 0, 1) := dq_42 dp_cX5_most rfl
theorem dX5_most_108 : decode cX5_most 108 = .ok (.iload 7, 2) := dq_21 dp_cX5_most rfl
theorem dX5_most_110 : decode cX5_most 110 = .ok (.iload_n 2, 1) := dq_28 dp_cX5_most rfl
theorem dX5_most_111 : decode cX5_most 111 = .ok (.iload_n 3, 1) := dq_29 dp_cX5_most rfl
theorem dX5_most_112 : decode cX5_most 112 = .ok (.invokevirtual 82, 3) := dq_182 dp_cX5_most rfl
theorem dX5_most_115 : decode cX5_most 115 = .ok (.astore 8, 2) := dq_58 dp_cX5_most rfl
theorem dX5_most_117 : decode cX5_most 117 = .ok (.aload 8, 2) := dq_25 dp_cX5_most rfl
theorem dX5_most_119 : decode cX5_most 119 = .ok (.ifnull 19, 3) := dq_198 (v := 19) dp_cX5_most rfl rfl
theorem dX5_most_122 : decode cX5_most 122 = .ok (.iload 6, 2) := dq_21 dp_cX5_most rfl
theorem dX5_most_124 : decode cX5_most 124 = .ok (.aload_n 0, 1) := dq_42 dp_cX5_most rfl
theorem dX5_most_125 : decode cX5_most 125 = .ok (.aload 8, 2) := dq_25 dp_cX5_most rfl
theorem dX5_most_127 : decode cX5_most 127 = .ok (.iload_n 1, 1) := dq_27 dp_cX5_most rfl
theorem dX5_most_128 : decode cX5_most 128 = .ok (.iload_n 2, 1) := dq_28 dp_cX5_most rfl
theorem dX5_most_129 : decode cX5_most 129 = .ok (.iload_n 3, 1) := dq_29 dp_cX5_most rfl
theorem dX5_most_130 : decode cX5_most 130 = .ok (.invokevirtual 86, 3) := dq_182 dp_cX5_most rfl
theorem dX5_most_133 : decode cX5_most 133 = .ok (.invokestatic 52, 3) := dq_184 dp_cX5_most rfl
theorem dX5_most_136 : decode cX5_most 136 = .ok (.istore 6, 2) := dq_54 dp_cX5_most rfl
theorem dX5_most_138 : decode cX5_most 138 = .ok (.iinc 7 1, 3) := dq_132 (v := 1) dp_cX5_most rfl (by decide) rfl
theorem dX5_most_141 : decode cX5_most 141 = .ok (.goto (-43), 3) := dq_167 (v := 65493) dp_cX5_most rfl rfl
theorem dX5_most_144 : decode cX5_most 144 = .ok (.iload 4, 2) := dq_21 dp_cX5_most rfl
theorem dX5_most_146 : decode cX5_most 146 = .ok (.ifCond .eq 12, 3) := dq_153 (v := 12) dp_cX5_most rfl rfl
theorem dX5_most_149 : decode cX5_most 149 = .ok (.aload_n 0, 1) := dq_42 dp_cX5_most rfl
theorem dX5_most_150 : decode cX5_most 150 = .ok (.getfield 9, 3) := dq_180 dp_cX5_most rfl
theorem dX5_most_153 : decode cX5_most 153 = .ok (.iload 5, 2) := dq_21 dp_cX5_most rfl
theorem dX5_most_155 : decode cX5_most 155 = .ok (.iload 6, 2) := dq_21 dp_cX5_most rfl
theorem dX5_most_157 : decode cX5_most 157 = .ok (.iastore, 1) := dq_79 dp_cX5_most rfl
theorem dX5_most_158 : decode cX5_most 158 = .ok (.iload 6, 2) := dq_21 dp_cX5_most rfl
theorem dX5_most_160 : decode cX5_most 160 = .ok (.ireturn, 1) := dq_172 dp_cX5_most rfl
set_option maxRecDepth 20000 in
theorem gl_X5_mostBy_X20 : GoodIn wsX5_mostBy wsX20 := (dg_t (dg_r gw_wsX20))
theorem ggX5_mostBy_X2_waysAt : GoodIn wsX5_mostBy wsX2_waysAt := (dg_c 7 rfl rfl (dg_c 8 rfl rfl (dg_c 9 rfl rfl (dg_c 10 rfl rfl (dg_c 11 rfl rfl (dg_c 12 rfl rfl (dg_c 13 rfl rfl (dg_c 14 rfl rfl (dg_c 15 rfl rfl (dg_c 16 rfl rfl (dg_c 17 rfl rfl (dg_c 18 rfl rfl (dg_c 6 rfl rfl (dg_c 19 rfl rfl (dg_c 20 rfl rfl gl_X5_mostBy_X20)))))))))))))))
set_option maxRecDepth 20000 in
theorem gX5_mostBy_X2_waysAt : GoodIn wsX5_mostBy (wsV RX5 90 RX2 yX2_waysAt wsX2_waysAt) := goodIn_app (dg_c 3 rfl rfl (dg_c 4 rfl rfl (dg_c 5 rfl rfl (dg_c 6 rfl rfl dg_0)))) ggX5_mostBy_X2_waysAt
set_option maxRecDepth 20000 in
theorem ggX5_mostBy_X2_shallower : GoodIn wsX5_mostBy wsX2_shallower := (dg_c 24 rfl rfl (dg_c 13 rfl rfl (dg_c 14 rfl rfl (dg_c 11 rfl rfl (dg_c 15 rfl rfl (dg_c 25 rfl rfl (dg_c 26 rfl rfl (dg_c 27 rfl rfl (dg_c 6 rfl rfl (dg_c 28 rfl rfl (dg_c 8 rfl rfl (dg_c 20 rfl rfl gl_X5_mostBy_X20))))))))))))
set_option maxRecDepth 20000 in
theorem gX5_mostBy_X2_shallower : GoodIn wsX5_mostBy (wsV RX5 93 RX2 yX2_shallower wsX2_shallower) := goodIn_app (dg_c 21 rfl rfl (dg_c 22 rfl rfl (dg_c 23 rfl rfl (dg_c 6 rfl rfl dg_0)))) ggX5_mostBy_X2_shallower
set_option maxRecDepth 20000 in
theorem gl_X5_mostBy_X50 : GoodIn wsX5_mostBy wsX50 := (dg_t (dg_l (dg_r gw_wsX50)))
theorem ggX5_mostBy_X5_most : GoodIn wsX5_mostBy wsX5_most := (dg_c 37 rfl rfl (goodIn_app (goodIn_app (goodIn_app (dg_c 38 rfl rfl (dg_c 39 rfl rfl (dg_c 40 rfl rfl (dg_c 41 rfl rfl (dg_c 42 rfl rfl (dg_c 14 rfl rfl (dg_c 11 rfl rfl (dg_c 15 rfl rfl (dg_c 43 rfl rfl (dg_c 44 rfl rfl (dg_c 45 rfl rfl (dg_c 32 rfl rfl (dg_c 46 rfl rfl (dg_c 47 rfl rfl (dg_c 48 rfl rfl (dg_c 49 rfl rfl (dg_c 50 rfl rfl (dg_c 51 rfl rfl (dg_c 52 rfl rfl (dg_c 53 rfl rfl (dg_c 6 rfl rfl (dg_c 54 rfl rfl (dg_c 55 rfl rfl (dg_c 56 rfl rfl dg_0)))))))))))))))))))))))) (goodIn_app (dg_c 57 rfl rfl (dg_c 58 rfl rfl (dg_c 0 rfl rfl (dg_c 1 rfl rfl (dg_c 2 rfl rfl (dg_c 3 rfl rfl (dg_c 4 rfl rfl (dg_c 5 rfl rfl (dg_c 7 rfl rfl (dg_c 8 rfl rfl (dg_c 9 rfl rfl (dg_c 10 rfl rfl (dg_c 12 rfl rfl (dg_c 13 rfl rfl (dg_c 16 rfl rfl (dg_c 17 rfl rfl (dg_c 18 rfl rfl (dg_c 19 rfl rfl (dg_c 20 rfl rfl (dg_c 21 rfl rfl (dg_c 22 rfl rfl (dg_c 23 rfl rfl (dg_c 24 rfl rfl (dg_c 25 rfl rfl dg_0)))))))))))))))))))))))) (dg_c 26 rfl rfl (dg_c 27 rfl rfl (dg_c 28 rfl rfl (dg_c 29 rfl rfl (dg_c 30 rfl rfl (dg_c 31 rfl rfl (dg_c 33 rfl rfl (dg_c 34 rfl rfl (dg_c 35 rfl rfl (dg_c 36 rfl rfl dg_0)))))))))))) gl_X5_mostBy_X50) gl_X5_mostBy_X20))
set_option maxRecDepth 20000 in
theorem gX5_mostBy_X5_most : GoodIn wsX5_mostBy (wsV RX5 97 RX5 yX5_most wsX5_most) := goodIn_app (dg_c 29 rfl rfl (dg_c 30 rfl rfl (dg_c 31 rfl rfl (dg_c 32 rfl rfl dg_0)))) ggX5_mostBy_X5_most
set_option maxRecDepth 20000 in
theorem ggX5_mostBy_X2_deeper : GoodIn wsX5_mostBy wsX2_deeper := (dg_c 36 rfl rfl (dg_c 8 rfl rfl (dg_c 20 rfl rfl (dg_c 9 rfl rfl (dg_c 10 rfl rfl (dg_c 11 rfl rfl (dg_c 12 rfl rfl gl_X5_mostBy_X20)))))))
set_option maxRecDepth 20000 in
theorem gX5_mostBy_X2_deeper : GoodIn wsX5_mostBy (wsV RX5 101 RX2 yX2_deeper wsX2_deeper) := goodIn_app (dg_c 33 rfl rfl (dg_c 34 rfl rfl (dg_c 35 rfl rfl (dg_c 6 rfl rfl dg_0)))) ggX5_mostBy_X2_deeper
theorem dX5_mostBy_0 : decode cX5_mostBy 0 = .ok (.aload_n 1, 1) := dq_43 dp_cX5_mostBy rfl
theorem dX5_mostBy_1 : decode cX5_mostBy 1 = .ok (.iload_n 3, 1) := dq_29 dp_cX5_mostBy rfl
theorem dX5_mostBy_2 : decode cX5_mostBy 2 = .ok (.aload_n 0, 1) := dq_42 dp_cX5_mostBy rfl
theorem dX5_mostBy_3 : decode cX5_mostBy 3 = .ok (.getfield 31, 3) := dq_180 dp_cX5_mostBy rfl
theorem dX5_mostBy_6 : decode cX5_mostBy 6 = .ok (.invokevirtual 90, 3) := dq_182 dp_cX5_mostBy rfl
theorem dX5_mostBy_9 : decode cX5_mostBy 9 = .ok (.istore 5, 2) := dq_54 dp_cX5_mostBy rfl
theorem dX5_mostBy_11 : decode cX5_mostBy 11 = .ok (.iload 4, 2) := dq_21 dp_cX5_mostBy rfl
theorem dX5_mostBy_13 : decode cX5_mostBy 13 = .ok (.aload_n 1, 1) := dq_43 dp_cX5_mostBy rfl
theorem dX5_mostBy_14 : decode cX5_mostBy 14 = .ok (.getfield 49, 3) := dq_180 dp_cX5_mostBy rfl
theorem dX5_mostBy_17 : decode cX5_mostBy 17 = .ok (.isub, 1) := dq_100 dp_cX5_mostBy rfl
theorem dX5_mostBy_18 : decode cX5_mostBy 18 = .ok (.istore 6, 2) := dq_54 dp_cX5_mostBy rfl
theorem dX5_mostBy_20 : decode cX5_mostBy 20 = .ok (.iconst 0, 1) := dq_3 dp_cX5_mostBy rfl
theorem dX5_mostBy_21 : decode cX5_mostBy 21 = .ok (.istore 7, 2) := dq_54 dp_cX5_mostBy rfl
theorem dX5_mostBy_23 : decode cX5_mostBy 23 = .ok (.iload 5, 2) := dq_21 dp_cX5_mostBy rfl
theorem dX5_mostBy_25 : decode cX5_mostBy 25 = .ok (.ifCond .le 25, 3) := dq_158 (v := 25) dp_cX5_mostBy rfl rfl
theorem dX5_mostBy_28 : decode cX5_mostBy 28 = .ok (.iload 7, 2) := dq_21 dp_cX5_mostBy rfl
theorem dX5_mostBy_30 : decode cX5_mostBy 30 = .ok (.iload 5, 2) := dq_21 dp_cX5_mostBy rfl
theorem dX5_mostBy_32 : decode cX5_mostBy 32 = .ok (.aload_n 0, 1) := dq_42 dp_cX5_mostBy rfl
theorem dX5_mostBy_33 : decode cX5_mostBy 33 = .ok (.iload_n 2, 1) := dq_28 dp_cX5_mostBy rfl
theorem dX5_mostBy_34 : decode cX5_mostBy 34 = .ok (.iconst 1, 1) := dq_4 dp_cX5_mostBy rfl
theorem dX5_mostBy_35 : decode cX5_mostBy 35 = .ok (.isub, 1) := dq_100 dp_cX5_mostBy rfl
theorem dX5_mostBy_36 : decode cX5_mostBy 36 = .ok (.aload_n 1, 1) := dq_43 dp_cX5_mostBy rfl
theorem dX5_mostBy_37 : decode cX5_mostBy 37 = .ok (.iload_n 3, 1) := dq_29 dp_cX5_mostBy rfl
theorem dX5_mostBy_38 : decode cX5_mostBy 38 = .ok (.invokevirtual 93, 3) := dq_182 dp_cX5_mostBy rfl
theorem dX5_mostBy_41 : decode cX5_mostBy 41 = .ok (.iload 6, 2) := dq_21 dp_cX5_mostBy rfl
theorem dX5_mostBy_43 : decode cX5_mostBy 43 = .ok (.invokevirtual 97, 3) := dq_182 dp_cX5_mostBy rfl
theorem dX5_mostBy_46 : decode cX5_mostBy 46 = .ok (.imul, 1) := dq_104 dp_cX5_mostBy rfl
theorem dX5_mostBy_47 : decode cX5_mostBy 47 = .ok (.iadd, 1) := dq_96 dp_cX5_mostBy rfl
theorem dX5_mostBy_48 : decode cX5_mostBy 48 = .ok (.istore 7, 2) := dq_54 dp_cX5_mostBy rfl
theorem dX5_mostBy_50 : decode cX5_mostBy 50 = .ok (.iload 5, 2) := dq_21 dp_cX5_mostBy rfl
theorem dX5_mostBy_52 : decode cX5_mostBy 52 = .ok (.bipush 12, 2) := dq_16 (v := 12) dp_cX5_mostBy rfl rfl
theorem dX5_mostBy_54 : decode cX5_mostBy 54 = .ok (.if_icmp .ge 32, 3) := dq_162 (v := 32) dp_cX5_mostBy rfl rfl
theorem dX5_mostBy_57 : decode cX5_mostBy 57 = .ok (.iload 7, 2) := dq_21 dp_cX5_mostBy rfl
theorem dX5_mostBy_59 : decode cX5_mostBy 59 = .ok (.bipush 12, 2) := dq_16 (v := 12) dp_cX5_mostBy rfl rfl
theorem dX5_mostBy_61 : decode cX5_mostBy 61 = .ok (.iload 5, 2) := dq_21 dp_cX5_mostBy rfl
theorem dX5_mostBy_63 : decode cX5_mostBy 63 = .ok (.isub, 1) := dq_100 dp_cX5_mostBy rfl
theorem dX5_mostBy_64 : decode cX5_mostBy 64 = .ok (.aload_n 0, 1) := dq_42 dp_cX5_mostBy rfl
theorem dX5_mostBy_65 : decode cX5_mostBy 65 = .ok (.iload_n 2, 1) := dq_28 dp_cX5_mostBy rfl
theorem dX5_mostBy_66 : decode cX5_mostBy 66 = .ok (.iconst 1, 1) := dq_4 dp_cX5_mostBy rfl
theorem dX5_mostBy_67 : decode cX5_mostBy 67 = .ok (.isub, 1) := dq_100 dp_cX5_mostBy rfl
theorem dX5_mostBy_68 : decode cX5_mostBy 68 = .ok (.aload_n 1, 1) := dq_43 dp_cX5_mostBy rfl
theorem dX5_mostBy_69 : decode cX5_mostBy 69 = .ok (.iload_n 3, 1) := dq_29 dp_cX5_mostBy rfl
theorem dX5_mostBy_70 : decode cX5_mostBy 70 = .ok (.aload_n 0, 1) := dq_42 dp_cX5_mostBy rfl
theorem dX5_mostBy_71 : decode cX5_mostBy 71 = .ok (.getfield 31, 3) := dq_180 dp_cX5_mostBy rfl
theorem dX5_mostBy_74 : decode cX5_mostBy 74 = .ok (.invokevirtual 101, 3) := dq_182 dp_cX5_mostBy rfl
theorem dX5_mostBy_77 : decode cX5_mostBy 77 = .ok (.iload 6, 2) := dq_21 dp_cX5_mostBy rfl
theorem dX5_mostBy_79 : decode cX5_mostBy 79 = .ok (.invokevirtual 97, 3) := dq_182 dp_cX5_mostBy rfl
theorem dX5_mostBy_82 : decode cX5_mostBy 82 = .ok (.imul, 1) := dq_104 dp_cX5_mostBy rfl
theorem dX5_mostBy_83 : decode cX5_mostBy 83 = .ok (.iadd, 1) := dq_96 dp_cX5_mostBy rfl
theorem dX5_mostBy_84 : decode cX5_mostBy 84 = .ok (.istore 7, 2) := dq_54 dp_cX5_mostBy rfl
theorem dX5_mostBy_86 : decode cX5_mostBy 86 = .ok (.iload 7, 2) := dq_21 dp_cX5_mostBy rfl
theorem dX5_mostBy_88 : decode cX5_mostBy 88 = .ok (.ireturn, 1) := dq_172 dp_cX5_mostBy rfl
theorem dX5_headIsCheapest_0 : decode cX5_headIsCheapest 0 = .ok (.iload_n 1, 1) := dq_27 dp_cX5_headIsCheapest rfl
theorem dX5_headIsCheapest_1 : decode cX5_headIsCheapest 1 = .ok (.bipush 30, 2) := dq_16 (v := 30) dp_cX5_headIsCheapest rfl rfl
theorem dX5_headIsCheapest_3 : decode cX5_headIsCheapest 3 = .ok (.if_icmp .lt 22, 3) := dq_161 (v := 22) dp_cX5_headIsCheapest rfl rfl
theorem dX5_headIsCheapest_6 : decode cX5_headIsCheapest 6 = .ok (.aload_n 0, 1) := dq_42 dp_cX5_headIsCheapest rfl
theorem dX5_headIsCheapest_7 : decode cX5_headIsCheapest 7 = .ok (.getfield 18, 3) := dq_180 dp_cX5_headIsCheapest rfl
theorem dX5_headIsCheapest_10 : decode cX5_headIsCheapest 10 = .ok (.iconst 1, 1) := dq_4 dp_cX5_headIsCheapest rfl
theorem dX5_headIsCheapest_11 : decode cX5_headIsCheapest 11 = .ok (.iaload, 1) := dq_46 dp_cX5_headIsCheapest rfl
theorem dX5_headIsCheapest_12 : decode cX5_headIsCheapest 12 = .ok (.aload_n 0, 1) := dq_42 dp_cX5_headIsCheapest rfl
theorem dX5_headIsCheapest_13 : decode cX5_headIsCheapest 13 = .ok (.getfield 18, 3) := dq_180 dp_cX5_headIsCheapest rfl
theorem dX5_headIsCheapest_16 : decode cX5_headIsCheapest 16 = .ok (.iconst 2, 1) := dq_5 dp_cX5_headIsCheapest rfl
theorem dX5_headIsCheapest_17 : decode cX5_headIsCheapest 17 = .ok (.iaload, 1) := dq_46 dp_cX5_headIsCheapest rfl
theorem dX5_headIsCheapest_18 : decode cX5_headIsCheapest 18 = .ok (.if_icmp .gt 7, 3) := dq_163 (v := 7) dp_cX5_headIsCheapest rfl rfl
theorem dX5_headIsCheapest_21 : decode cX5_headIsCheapest 21 = .ok (.iconst 1, 1) := dq_4 dp_cX5_headIsCheapest rfl
theorem dX5_headIsCheapest_22 : decode cX5_headIsCheapest 22 = .ok (.goto 4, 3) := dq_167 (v := 4) dp_cX5_headIsCheapest rfl rfl
theorem dX5_headIsCheapest_25 : decode cX5_headIsCheapest 25 = .ok (.iconst 0, 1) := dq_3 dp_cX5_headIsCheapest rfl
theorem dX5_headIsCheapest_26 : decode cX5_headIsCheapest 26 = .ok (.ireturn, 1) := dq_172 dp_cX5_headIsCheapest rfl
set_option maxRecDepth 20000 in
theorem gl_X5_leastAtOnce_X50 : GoodIn wsX5_leastAtOnce wsX50 := (dg_t (dg_t (dg_t (dg_t (dg_t (dg_t (dg_t (dg_t gw_wsX50))))))))
theorem ggX5_leastAtOnce_X5_headIsCheapest : GoodIn wsX5_leastAtOnce wsX5_headIsCheapest := (dg_c 7 rfl rfl (dg_c 2 rfl rfl gl_X5_leastAtOnce_X50))
set_option maxRecDepth 20000 in
theorem gX5_leastAtOnce_X5_headIsCheapest : GoodIn wsX5_leastAtOnce (wsV RX5 113 RX5 yX5_headIsCheapest wsX5_headIsCheapest) := goodIn_app (dg_c 3 rfl rfl (dg_c 4 rfl rfl (dg_c 5 rfl rfl (dg_c 6 rfl rfl dg_0)))) ggX5_leastAtOnce_X5_headIsCheapest
theorem dX5_leastAtOnce_0 : decode cX5_leastAtOnce 0 = .ok (.getstatic 79, 3) := dq_178 dp_cX5_leastAtOnce rfl
theorem dX5_leastAtOnce_3 : decode cX5_leastAtOnce 3 = .ok (.iload_n 1, 1) := dq_27 dp_cX5_leastAtOnce rfl
theorem dX5_leastAtOnce_4 : decode cX5_leastAtOnce 4 = .ok (.iaload, 1) := dq_46 dp_cX5_leastAtOnce rfl
theorem dX5_leastAtOnce_5 : decode cX5_leastAtOnce 5 = .ok (.aload_n 0, 1) := dq_42 dp_cX5_leastAtOnce rfl
theorem dX5_leastAtOnce_6 : decode cX5_leastAtOnce 6 = .ok (.getfield 18, 3) := dq_180 dp_cX5_leastAtOnce rfl
theorem dX5_leastAtOnce_9 : decode cX5_leastAtOnce 9 = .ok (.aload_n 0, 1) := dq_42 dp_cX5_leastAtOnce rfl
theorem dX5_leastAtOnce_10 : decode cX5_leastAtOnce 10 = .ok (.iload_n 2, 1) := dq_28 dp_cX5_leastAtOnce rfl
theorem dX5_leastAtOnce_11 : decode cX5_leastAtOnce 11 = .ok (.invokevirtual 113, 3) := dq_182 dp_cX5_leastAtOnce rfl
theorem dX5_leastAtOnce_14 : decode cX5_leastAtOnce 14 = .ok (.ifCond .eq 7, 3) := dq_153 (v := 7) dp_cX5_leastAtOnce rfl rfl
theorem dX5_leastAtOnce_17 : decode cX5_leastAtOnce 17 = .ok (.iconst 1, 1) := dq_4 dp_cX5_leastAtOnce rfl
theorem dX5_leastAtOnce_18 : decode cX5_leastAtOnce 18 = .ok (.goto 4, 3) := dq_167 (v := 4) dp_cX5_leastAtOnce rfl rfl
theorem dX5_leastAtOnce_21 : decode cX5_leastAtOnce 21 = .ok (.iconst 2, 1) := dq_5 dp_cX5_leastAtOnce rfl
theorem dX5_leastAtOnce_22 : decode cX5_leastAtOnce 22 = .ok (.iaload, 1) := dq_46 dp_cX5_leastAtOnce rfl
theorem dX5_leastAtOnce_23 : decode cX5_leastAtOnce 23 = .ok (.imul, 1) := dq_104 dp_cX5_leastAtOnce rfl
theorem dX5_leastAtOnce_24 : decode cX5_leastAtOnce 24 = .ok (.ireturn, 1) := dq_172 dp_cX5_leastAtOnce rfl
end
section
theorem gl_X5_mayBeAt_X50 : GoodIn wsX5_mayBeAt wsX50 := (dg_t (dg_t (dg_t (dg_t (dg_t (dg_t (dg_t (dg_t (dg_t (dg_t (dg_t (dg_l gw_wsX50))))))))))))
theorem hi_X5_mayBeAt_5 : ∀ w ∈ u_ws RX5 TX5 7, w ∈ wsX5_mayBeAt := fun w h => (gl_X5_mayBeAt_X50 w h).1
set_option maxHeartbeats 4000000 in
set_option maxRecDepth 100000 in
theorem c_W_mayBeAt (l : Launch) (D : va_G) (cI cJ cZ cP cS : ClassId) (po : zPool) (w0 wk wl wc wp : Nat) (wn wh wg : Int32) (fp : Nat → Option Nat) (p_ d sec : Int32) (hy0 : 0 ≤ wn.toInt) (hy1 : wn.toInt ≤ 8) (hy2 : 0 ≤ wh.toInt) (hy3 : wh.toInt ≤ 9) (hy4 : 0 ≤ wg.toInt) (hy5 : wg.toInt ≤ 60) (hwp : zWP po fp) : Met l yX5_mayBeAt wsX5_mayBeAt ({ frames := 1, cells := 0, slots := 0, locals := 22 }) (va_Pc [.ref w0, .int p_, .int d, .int sec] (zR D (zKT cI cJ cZ cP cS) po [(w0, .inr (5, [.ref wk, .ref wl, .ref wc, .ref wp, .int wn, .int wh, .int wg])), (wp, .inl (cP, 8, .inr (.inr (.inr (.inr fp)))))])) (va_Sq (fun r => (r = none ∧ p_.toInt < 0) ∨ (r = none ∧ 0 ≤ p_.toInt ∧ 7 < p_.toInt) ∨ (r = none ∧ 0 ≤ p_.toInt ∧ p_.toInt ≤ 7) ∨ (r = none ∧ 0 ≤ p_.toInt ∧ p_.toInt ≤ 7 ∧ d.toInt < 1) ∨ (r = none ∧ 0 ≤ p_.toInt ∧ p_.toInt ≤ 7 ∧ 1 ≤ d.toInt) ∨ ((∃ (u : Nat) (k a t : Int32), r = some u ∧ zPu po u k a t) ∧ 0 ≤ p_.toInt ∧ p_.toInt ≤ 7 ∧ 1 ≤ d.toInt))) 0 0 (fun _ => False) := by
  refine Met.ofW (cc := cX5_mayBeAt) (maxL := 5) (ret := (some (.object "TheLiningsInIt$Pull"))) (by decide) rfl ?_
  intro p e s m args below meth c s₁ B hml hv
  obtain ⟨rfl, hP, hK, hN, hZ⟩ := hv
  have hx := B.exec
  have hb := B.bytes
  have hr := B.returns
  have hts := atoms_spec (ws := wsX5_mayBeAt) B.pre
  have hown : s.vm.findClass RX5 = some m.cls := findClass_of_methodNamed B.named
  have hlocks := B.notSynchronized
  have hl := lv_entry ([.ref w0, .int p_, .int d, .int sec]) (n := 5) (Nat.le_of_ble_eq_true rfl)
  rw [lg_entry_eq]
  generalize (lg_sl ([.ref w0, .int p_, .int d, .int sec]) ++ List.replicate (5 - (lg_sl ([.ref w0, .int p_, .int d, .int sec])).length) Slot.unset).toArray = ls at hl ⊢
  replace hl : lv_has ls 5 [(0, .ref w0), (1, .int p_), (2, .int d), (3, .int sec)] := hl
  refine lv_iload_n hx hb dX5_mayBeAt_0 rfl (lv_at hl 1 rfl) ?_
  refine lv_iconst (v := 0) hx hb dX5_mayBeAt_1 (by decide) ?_
  refine lv_bipush (v := 7) hx hb dX5_mayBeAt_2 (by decide) ?_
  have kc0 : (0 : Int32).toInt = 0 := by decide
  have kc7 : (7 : Int32).toInt = 7 := by decide
  refine zc_SN (As := [.int p_, .int 0, .int 7]) (rest := []) ⟨hx, hb, hml, hown, hts⟩ (c_within l D cI cJ cZ cP cS po (p_) (0) (7) ) ⟨(va_cnB 3 hts gX5_mayBeAt_X7_within_n71 rfl rfl rfl (hN.1 (RX5, 71, yX7_within) (List.mem_of_getElem? (i := 9) rfl)) (hts _ (List.mem_of_getElem? (i := 3) rfl)) dh_X7_within ⟨Nat.le_of_ble_eq_true rfl, Nat.le_of_ble_eq_true rfl⟩), (hts _ (List.mem_of_getElem? (i := 2) rfl)), trivial⟩ hK hN hZ rfl hl.1 rfl (Nat.le_of_ble_eq_true rfl) dX5_mayBeAt_4 ⟨Nat.le_of_ble_eq_true rfl, Nat.le_of_ble_eq_true rfl⟩ (fun r_1 hr_1 => ?_)
  rcases hr_1 with ⟨rfl, g_2⟩ | ⟨rfl, g_3, g_4⟩ | ⟨rfl, g_5, g_6⟩
  · refine lv_if_eq (tgt := 19) hx hb dX5_mayBeAt_7 (by decide) (fun c_7 => ?_) (fun c_7 => ?_)
    · refine lv_null hx hb dX5_mayBeAt_19 ?_
      refine lv_astoreN (lv' := [(4, .null), (0, .ref w0), (1, .int p_), (2, .int d), (3, .int sec)]) hx hb dX5_mayBeAt_20 hl (by decide) rfl (fun ls hl => ?_)
      refine lv_aloadN hx hb dX5_mayBeAt_22 (lv_at hl 0 rfl) ?_
      refine lv_ifnullN (tgt := 42) hx hb dX5_mayBeAt_24 (by decide) ?_
      refine lv_null hx hb dX5_mayBeAt_42 ?_
      exact W.aret (v := .null) hx hb hr (Or.inl ⟨_, rfl⟩) (Or.inl rfl) (fun t ht hW => ⟨none, rfl, Or.inl (⟨rfl, (by first | omega | decide)⟩), ht⟩) (fun q hq => by cases hq) dX5_mayBeAt_43
    · exact absurd c_7 (by decide)
  · refine lv_if_eq (tgt := 19) hx hb dX5_mayBeAt_7 (by decide) (fun c_8 => ?_) (fun c_8 => ?_)
    · refine lv_null hx hb dX5_mayBeAt_19 ?_
      refine lv_astoreN (lv' := [(4, .null), (0, .ref w0), (1, .int p_), (2, .int d), (3, .int sec)]) hx hb dX5_mayBeAt_20 hl (by decide) rfl (fun ls hl => ?_)
      refine lv_aloadN hx hb dX5_mayBeAt_22 (lv_at hl 0 rfl) ?_
      refine lv_ifnullN (tgt := 42) hx hb dX5_mayBeAt_24 (by decide) ?_
      refine lv_null hx hb dX5_mayBeAt_42 ?_
      exact W.aret (v := .null) hx hb hr (Or.inl ⟨_, rfl⟩) (Or.inl rfl) (fun t ht hW => ⟨none, rfl, Or.inr (Or.inl (⟨rfl, (by first | omega | decide), (by first | omega | decide)⟩)), ht⟩) (fun q hq => by cases hq) dX5_mayBeAt_43
    · exact absurd c_8 (by decide)
  · refine lv_if_eq (tgt := 19) hx hb dX5_mayBeAt_7 (by decide) (fun c_9 => ?_) (fun c_9 => ?_)
    · exact absurd c_9 (by decide)
    · refine lv_aload_n hx hb dX5_mayBeAt_10 rfl (lv_at hl 0 rfl) ?_
      refine va_get (D := D) (ci := 5) (v := .ref wp) (C := RX5) (T := TX5) (N := 7) hx hb hts hi_X5_mayBeAt_5 hown hK hP 0 rfl rfl 3 (by decide) (hts (.fieldLink RX5 23 "TheLiningsInIt$Ways" "pulls" "[LTheLiningsInIt$Pull;") (List.mem_of_getElem? (i := 1) rfl)) (fun _ h9 => h9) rfl dX5_mayBeAt_11 ?_
      refine lv_iload_n hx hb dX5_mayBeAt_14 rfl (lv_at hl 1 rfl) ?_
      refine va_aldq hx hb hK hP 1 3 rfl rfl (zf_in (by omega) (by omega)) dX5_mayBeAt_15 ?_
      rcases hwp p_.toNatClampNeg with hfu_10 | ⟨u_10, kiu_10, au_10, tu_10, hfu_10, huu_10⟩
      · rw [hfu_10]
        refine W.eq (g2 := F0 m 16 ls (.null :: [])) rfl ?_
        refine lv_goto (tgt := 20) hx hb dX5_mayBeAt_16 (by decide) ?_
        refine lv_astoreN (lv' := [(4, .null), (0, .ref w0), (1, .int p_), (2, .int d), (3, .int sec)]) hx hb dX5_mayBeAt_20 hl (by decide) rfl (fun ls hl => ?_)
        refine lv_aloadN hx hb dX5_mayBeAt_22 (lv_at hl 0 rfl) ?_
        refine lv_ifnullN (tgt := 42) hx hb dX5_mayBeAt_24 (by decide) ?_
        refine lv_null hx hb dX5_mayBeAt_42 ?_
        exact W.aret (v := .null) hx hb hr (Or.inl ⟨_, rfl⟩) (Or.inl rfl) (fun t ht hW => ⟨none, rfl, Or.inr (Or.inr (Or.inl (⟨rfl, (by first | omega | decide), (by first | omega | decide)⟩))), ht⟩) (fun q hq => by cases hq) dX5_mayBeAt_43
      · rw [hfu_10]
        refine W.eq (g2 := F0 m 16 ls (.ref u_10 :: [])) rfl ?_
        obtain ⟨hku_10, hau_10, htu_10⟩ := zPu_pr hZ huu_10
        refine lv_goto (tgt := 20) hx hb dX5_mayBeAt_16 (by decide) ?_
        refine lv_astore (lv' := [(4, .ref u_10), (0, .ref w0), (1, .int p_), (2, .int d), (3, .int sec)]) hx hb dX5_mayBeAt_20 hl (by decide) rfl (fun ls hl => ?_)
        refine lv_aload hx hb dX5_mayBeAt_22 (lv_at hl 0 rfl) ?_
        refine lv_ifnull hx hb dX5_mayBeAt_24 ?_
        refine lv_aload hx hb dX5_mayBeAt_27 (lv_at hl 0 rfl) ?_
        refine lv_iload_n hx hb dX5_mayBeAt_29 rfl (lv_at hl 3 rfl) ?_
        refine lv_iload_n hx hb dX5_mayBeAt_30 rfl (lv_at hl 4 rfl) ?_
        refine zc_V (As := [.int d, .int sec]) (rest := []) ⟨hx, hb, hml, hown, hts⟩ (c_Pull_mayBe l D cI cJ cZ cP cS po (d) (sec) u_10 (kiu_10) (au_10) (tu_10) huu_10 ⟨by omega, by omega, by omega, by omega⟩) (cwV 2 hts gX5_mayBeAt_X2_mayBe rfl rfl rfl ⟨rfl, dh_X2_mayBe⟩ ⟨Nat.le_of_ble_eq_true rfl, Nat.le_of_ble_eq_true rfl⟩) hK hN hZ hP zP_nil (va_recv (q := (RX2, TX2, 3)) hK (zPu_P hZ huu_10) (ci := 2) (q0 := 0) rfl rfl) rfl hl.1 rfl (Nat.le_of_ble_eq_true rfl) dX5_mayBeAt_31 ⟨Nat.le_of_ble_eq_true rfl, Nat.le_of_ble_eq_true rfl⟩ (fun r_11 hr_11 => ?_)
        rcases hr_11 with ⟨rfl, g_12⟩ | ⟨rfl, g_13, g_14⟩ | ⟨rfl, g_15, g_16⟩
        · refine lv_if_eq (tgt := 42) hx hb dX5_mayBeAt_34 (by decide) (fun c_17 => ?_) (fun c_17 => ?_)
          · refine lv_null hx hb dX5_mayBeAt_42 ?_
            exact W.aret (v := .null) hx hb hr (Or.inl ⟨_, rfl⟩) (Or.inl rfl) (fun t ht hW => ⟨none, rfl, Or.inr (Or.inr (Or.inr (Or.inl (⟨rfl, (by first | omega | decide), (by first | omega | decide), (by first | omega | decide)⟩)))), ht⟩) (fun q hq => by cases hq) dX5_mayBeAt_43
          · exact absurd c_17 (by decide)
        · refine lv_if_eq (tgt := 42) hx hb dX5_mayBeAt_34 (by decide) (fun c_18 => ?_) (fun c_18 => ?_)
          · refine lv_null hx hb dX5_mayBeAt_42 ?_
            exact W.aret (v := .null) hx hb hr (Or.inl ⟨_, rfl⟩) (Or.inl rfl) (fun t ht hW => ⟨none, rfl, Or.inr (Or.inr (Or.inr (Or.inr (Or.inl (⟨rfl, (by first | omega | decide), (by first | omega | decide), (by first | omega | decide)⟩))))), ht⟩) (fun q hq => by cases hq) dX5_mayBeAt_43
          · exact absurd c_18 (by decide)
        · refine lv_if_eq (tgt := 42) hx hb dX5_mayBeAt_34 (by decide) (fun c_19 => ?_) (fun c_19 => ?_)
          · exact absurd c_19 (by decide)
          · refine lv_aload hx hb dX5_mayBeAt_37 (lv_at hl 0 rfl) ?_
            refine lv_goto (tgt := 43) hx hb dX5_mayBeAt_39 (by decide) ?_
            exact W.aret (v := .ref u_10) hx hb hr (Or.inl ⟨_, rfl⟩) (Or.inr ⟨_, rfl⟩) (fun t ht hW => ⟨some u_10, rfl, Or.inr (Or.inr (Or.inr (Or.inr (Or.inr (⟨⟨u_10, kiu_10, au_10, tu_10, rfl, huu_10⟩, (by first | omega | decide), (by first | omega | decide), (by first | omega | decide)⟩))))), ht⟩) (fun q hq => by cases hq) dX5_mayBeAt_43
theorem gl_X5_headIsCheapest_X50 : GoodIn wsX5_headIsCheapest wsX50 := (dg_t (dg_t gw_wsX50))
theorem hi_X5_headIsCheapest_5 : ∀ w ∈ u_ws RX5 TX5 7, w ∈ wsX5_headIsCheapest := fun w h => (gl_X5_headIsCheapest_X50 w h).1
set_option maxHeartbeats 4000000 in
set_option maxRecDepth 100000 in
theorem c_W_headIsCheapest (l : Launch) (D : va_G) (cI cJ cZ cP cS : ClassId) (po : zPool) (w0 wk wl wc wp : Nat) (wn wh wg : Int32) (fc : Nat → Int32) (sec : Int32) (hy0 : 0 ≤ wn.toInt) (hy1 : wn.toInt ≤ 8) (hy2 : 0 ≤ wh.toInt) (hy3 : wh.toInt ≤ 9) (hy4 : 0 ≤ wg.toInt) (hy5 : wg.toInt ≤ 60) (hp_fc : zRg fc (0) 99) : Met l yX5_headIsCheapest wsX5_headIsCheapest ({ frames := 0, cells := 0, slots := 0, locals := 0 }) (va_Pc [.ref w0, .int sec] (zR D (zKT cI cJ cZ cP cS) po [(w0, .inr (5, [.ref wk, .ref wl, .ref wc, .ref wp, .int wn, .int wh, .int wg])), (wc, .inl (cI, 3, .inl fc))])) (vp_Si (fun r => 0 ≤ r.toInt ∧ r.toInt ≤ 1)) 0 0 (fun _ => False) := by
  refine Met.ofW (cc := cX5_headIsCheapest) (maxL := 2) (ret := (some .boolean)) (by decide) rfl ?_
  intro p e s m args below meth c s₁ B hml hv
  obtain ⟨rfl, hP, hK, hN, hZ⟩ := hv
  have hx := B.exec
  have hb := B.bytes
  have hr := B.returns
  have hts := atoms_spec (ws := wsX5_headIsCheapest) B.pre
  have hown : s.vm.findClass RX5 = some m.cls := findClass_of_methodNamed B.named
  have hlocks := B.notSynchronized
  have hl := lv_entry ([.ref w0, .int sec]) (n := 2) (Nat.le_of_ble_eq_true rfl)
  rw [lg_entry_eq]
  generalize (lg_sl ([.ref w0, .int sec]) ++ List.replicate (2 - (lg_sl ([.ref w0, .int sec])).length) Slot.unset).toArray = ls at hl ⊢
  replace hl : lv_has ls 2 [(0, .ref w0), (1, .int sec)] := hl
  refine lv_iload_n hx hb dX5_headIsCheapest_0 rfl (lv_at hl 1 rfl) ?_
  refine lv_bipush (v := 30) hx hb dX5_headIsCheapest_1 (by decide) ?_
  refine lv_icmp_lt (tgt := 25) hx hb dX5_headIsCheapest_3 (by decide) (fun c_1 => ?_) (fun c_1 => ?_)
  · have fc_1 : sec.toInt < 30 := zf_lt c_1 rfl (by decide)
    refine lv_iconst (v := 0) hx hb dX5_headIsCheapest_25 (by decide) ?_
    exact W.zret (v := 0) hx hb hr (by decide) (fun t ht hW => ⟨0, rfl, ⟨by decide, by decide⟩, ht⟩) (fun q hq => by cases hq) dX5_headIsCheapest_26
  · have fc_1 : 30 ≤ sec.toInt := zf_nlt c_1 rfl (by decide)
    refine lv_aload_n hx hb dX5_headIsCheapest_6 rfl (lv_at hl 0 rfl) ?_
    refine va_get (D := D) (ci := 5) (v := .ref wc) (C := RX5) (T := TX5) (N := 7) hx hb hts hi_X5_headIsCheapest_5 hown hK hP 0 rfl rfl 2 (by decide) (hts (.fieldLink RX5 18 "TheLiningsInIt$Ways" "costs" "[I") (List.mem_of_getElem? (i := 1) rfl)) (fun _ h9 => h9) rfl dX5_headIsCheapest_7 ?_
    refine lv_iconst (v := 1) hx hb dX5_headIsCheapest_10 (by decide) ?_
    refine va_iald hx hb hK hP 1 0 rfl rfl (zf_in (by decide) (by decide)) dX5_headIsCheapest_11 ?_
    refine lv_topi (fun x_2 ex_2 => ?_)
    have bx_2 : 0 ≤ x_2.toInt ∧ x_2.toInt ≤ 99 := by rw [ex_2]; exact hp_fc _
    refine lv_aload_n hx hb dX5_headIsCheapest_12 rfl (lv_at hl 0 rfl) ?_
    refine va_get (D := D) (ci := 5) (v := .ref wc) (C := RX5) (T := TX5) (N := 7) hx hb hts hi_X5_headIsCheapest_5 hown hK hP 0 rfl rfl 2 (by decide) (hts (.fieldLink RX5 18 "TheLiningsInIt$Ways" "costs" "[I") (List.mem_of_getElem? (i := 1) rfl)) (fun _ h9 => h9) rfl dX5_headIsCheapest_13 ?_
    refine lv_iconst (v := 2) hx hb dX5_headIsCheapest_16 (by decide) ?_
    refine va_iald hx hb hK hP 1 0 rfl rfl (zf_in (by decide) (by decide)) dX5_headIsCheapest_17 ?_
    refine lv_topi (fun x_3 ex_3 => ?_)
    have bx_3 : 0 ≤ x_3.toInt ∧ x_3.toInt ≤ 99 := by rw [ex_3]; exact hp_fc _
    refine lv_icmp_gt (tgt := 25) hx hb dX5_headIsCheapest_18 (by decide) (fun c_4 => ?_) (fun c_4 => ?_)
    · have fc_4 : x_3.toInt < x_2.toInt := zf_lt c_4 rfl rfl
      refine lv_iconst (v := 0) hx hb dX5_headIsCheapest_25 (by decide) ?_
      exact W.zret (v := 0) hx hb hr (by decide) (fun t ht hW => ⟨0, rfl, ⟨by decide, by decide⟩, ht⟩) (fun q hq => by cases hq) dX5_headIsCheapest_26
    · have fc_4 : x_2.toInt ≤ x_3.toInt := zf_nlt c_4 rfl rfl
      refine lv_iconst (v := 1) hx hb dX5_headIsCheapest_21 (by decide) ?_
      refine lv_goto (tgt := 26) hx hb dX5_headIsCheapest_22 (by decide) ?_
      exact W.zret (v := 1) hx hb hr (by decide) (fun t ht hW => ⟨1, rfl, ⟨by decide, by decide⟩, ht⟩) (fun q hq => by cases hq) dX5_headIsCheapest_26
theorem hi_X5_leastAtOnce_5 : ∀ w ∈ u_ws RX5 TX5 7, w ∈ wsX5_leastAtOnce := fun w h => (gl_X5_leastAtOnce_X50 w h).1
set_option maxHeartbeats 4000000 in
set_option maxRecDepth 100000 in
theorem c_W_leastAtOnce_0 (l : Launch) (D : va_G) (cI cJ cZ cP cS : ClassId) (po : zPool) (w0 wk wl wc wp : Nat) (wn wh wg : Int32) (fc : Nat → Int32) (sec : Int32) (hy0 : 0 ≤ wn.toInt) (hy1 : wn.toInt ≤ 8) (hy2 : 0 ≤ wh.toInt) (hy3 : wh.toInt ≤ 9) (hy4 : 0 ≤ wg.toInt) (hy5 : wg.toInt ≤ 60) (hp_fc : zRg fc (0) 99) : Met l yX5_leastAtOnce wsX5_leastAtOnce ({ frames := 1, cells := 0, slots := 0, locals := 21 }) (va_Pc [.ref w0, .int 0, .int sec] (zR D (zKT cI cJ cZ cP cS) po [(w0, .inr (5, [.ref wk, .ref wl, .ref wc, .ref wp, .int wn, .int wh, .int wg])), (wc, .inl (cI, 3, .inl fc))])) (vp_Si (fun r => True)) 0 0 (fun _ => False) := by
  refine Met.ofW (cc := cX5_leastAtOnce) (maxL := 3) (ret := (some .int)) (by decide) rfl ?_
  intro p e s m args below meth c s₁ B hml hv
  obtain ⟨rfl, hP, hK, hN, hZ⟩ := hv
  have hx := B.exec
  have hb := B.bytes
  have hr := B.returns
  have hts := atoms_spec (ws := wsX5_leastAtOnce) B.pre
  have hown : s.vm.findClass RX5 = some m.cls := findClass_of_methodNamed B.named
  have hlocks := B.notSynchronized
  have hl := lv_entry ([.ref w0, .int 0, .int sec]) (n := 3) (Nat.le_of_ble_eq_true rfl)
  rw [lg_entry_eq]
  generalize (lg_sl ([.ref w0, .int 0, .int sec]) ++ List.replicate (3 - (lg_sl ([.ref w0, .int 0, .int sec])).length) Slot.unset).toArray = ls at hl ⊢
  replace hl : lv_has ls 3 [(0, .ref w0), (1, .int 0), (2, .int sec)] := hl
  obtain ⟨t_1, zt_1, yt_1⟩ := hZ.1.1
  refine va_gets hx hb zt_1 va_S.rf hown (hts (.fieldLink RX5 79 "TheLiningsInIt$Ways" "POWERS" "[I") (List.mem_of_getElem? (i := 1) rfl)) (fun _ h9 => h9) dX5_leastAtOnce_0 ?_
  refine lv_iload_n hx hb dX5_leastAtOnce_3 rfl (lv_at hl 1 rfl) ?_
  refine va_ti hx hb yt_1 va_S.rf (zf_in (by decide) (by decide)) (v := .int 1) (by decide) dX5_leastAtOnce_4 ?_
  refine lv_aload_n hx hb dX5_leastAtOnce_5 rfl (lv_at hl 0 rfl) ?_
  refine va_get (D := D) (ci := 5) (v := .ref wc) (C := RX5) (T := TX5) (N := 7) hx hb hts hi_X5_leastAtOnce_5 hown hK hP 0 rfl rfl 2 (by decide) (hts (.fieldLink RX5 18 "TheLiningsInIt$Ways" "costs" "[I") (List.mem_of_getElem? (i := 2) rfl)) (fun _ h9 => h9) rfl dX5_leastAtOnce_6 ?_
  refine lv_aload_n hx hb dX5_leastAtOnce_9 rfl (lv_at hl 0 rfl) ?_
  refine lv_iload_n hx hb dX5_leastAtOnce_10 rfl (lv_at hl 2 rfl) ?_
  refine zc_V (As := [.int sec]) (rest := [.ref wc, .int 1]) ⟨hx, hb, hml, hown, hts⟩ (c_W_headIsCheapest l D cI cJ cZ cP cS po w0 wk wl wc wp (wn) (wh) (wg) fc (sec) hy0 hy1 hy2 hy3 hy4 hy5 hp_fc) (cwV 1 hts gX5_leastAtOnce_X5_headIsCheapest rfl rfl rfl ⟨rfl, dh_X5_headIsCheapest⟩ ⟨Nat.le_of_ble_eq_true rfl, Nat.le_of_ble_eq_true rfl⟩) hK hN hZ hP (hP.sub [0, 1] rfl) (va_recv (q := (RX5, TX5, 7)) hK hP (ci := 5) (q0 := 0) rfl rfl) rfl hl.1 rfl (Nat.le_of_ble_eq_true rfl) dX5_leastAtOnce_11 ⟨Nat.le_of_ble_eq_true rfl, Nat.le_of_ble_eq_true rfl⟩ (fun r_2 hr_2 => ?_)
  obtain ⟨g_3, g_4⟩ := hr_2
  refine lv_if_eq (tgt := 21) hx hb dX5_leastAtOnce_14 (by decide) (fun c_5 => ?_) (fun c_5 => ?_)
  · have fc_5 : r_2.toInt = 0 := zf_eq c_5 rfl (by decide)
    refine lv_iconst (v := 2) hx hb dX5_leastAtOnce_21 (by decide) ?_
    refine va_iald hx hb hK hP 1 0 rfl rfl (zf_in (by decide) (by decide)) dX5_leastAtOnce_22 ?_
    refine lv_topi (fun x_6 ex_6 => ?_)
    have bx_6 : 0 ≤ x_6.toInt ∧ x_6.toInt ≤ 99 := by rw [ex_6]; exact hp_fc _
    refine lv_imul hx hb dX5_leastAtOnce_23 ?_
    refine lv_topi (fun x_7 ex_7 => ?_)
    have qx_7 : x_7.toInt = 1 * x_6.toInt := by rw [ex_7]; exact zf_mul (by decide) rfl (by omega) (by omega)
    exact W.iret (v := x_7) hx hb hr (fun t ht hW => ⟨x_7, rfl, trivial, ht⟩) (fun q hq => by cases hq) dX5_leastAtOnce_24
  · have fc_5 : r_2.toInt ≠ 0 := zf_ne c_5 rfl (by decide)
    refine lv_iconst (v := 1) hx hb dX5_leastAtOnce_17 (by decide) ?_
    refine lv_goto (tgt := 22) hx hb dX5_leastAtOnce_18 (by decide) ?_
    refine va_iald hx hb hK hP 1 0 rfl rfl (zf_in (by decide) (by decide)) dX5_leastAtOnce_22 ?_
    refine lv_topi (fun x_8 ex_8 => ?_)
    have bx_8 : 0 ≤ x_8.toInt ∧ x_8.toInt ≤ 99 := by rw [ex_8]; exact hp_fc _
    refine lv_imul hx hb dX5_leastAtOnce_23 ?_
    refine lv_topi (fun x_9 ex_9 => ?_)
    have qx_9 : x_9.toInt = 1 * x_8.toInt := by rw [ex_9]; exact zf_mul (by decide) rfl (by omega) (by omega)
    exact W.iret (v := x_9) hx hb hr (fun t ht hW => ⟨x_9, rfl, trivial, ht⟩) (fun q hq => by cases hq) dX5_leastAtOnce_24
set_option maxHeartbeats 4000000 in
set_option maxRecDepth 100000 in
theorem c_W_leastAtOnce_1 (l : Launch) (D : va_G) (cI cJ cZ cP cS : ClassId) (po : zPool) (w0 wk wl wc wp : Nat) (wn wh wg : Int32) (fc : Nat → Int32) (sec : Int32) (hy0 : 0 ≤ wn.toInt) (hy1 : wn.toInt ≤ 8) (hy2 : 0 ≤ wh.toInt) (hy3 : wh.toInt ≤ 9) (hy4 : 0 ≤ wg.toInt) (hy5 : wg.toInt ≤ 60) (hp_fc : zRg fc (0) 99) : Met l yX5_leastAtOnce wsX5_leastAtOnce ({ frames := 1, cells := 0, slots := 0, locals := 21 }) (va_Pc [.ref w0, .int 1, .int sec] (zR D (zKT cI cJ cZ cP cS) po [(w0, .inr (5, [.ref wk, .ref wl, .ref wc, .ref wp, .int wn, .int wh, .int wg])), (wc, .inl (cI, 3, .inl fc))])) (vp_Si (fun r => True)) 0 0 (fun _ => False) := by
  refine Met.ofW (cc := cX5_leastAtOnce) (maxL := 3) (ret := (some .int)) (by decide) rfl ?_
  intro p e s m args below meth c s₁ B hml hv
  obtain ⟨rfl, hP, hK, hN, hZ⟩ := hv
  have hx := B.exec
  have hb := B.bytes
  have hr := B.returns
  have hts := atoms_spec (ws := wsX5_leastAtOnce) B.pre
  have hown : s.vm.findClass RX5 = some m.cls := findClass_of_methodNamed B.named
  have hlocks := B.notSynchronized
  have hl := lv_entry ([.ref w0, .int 1, .int sec]) (n := 3) (Nat.le_of_ble_eq_true rfl)
  rw [lg_entry_eq]
  generalize (lg_sl ([.ref w0, .int 1, .int sec]) ++ List.replicate (3 - (lg_sl ([.ref w0, .int 1, .int sec])).length) Slot.unset).toArray = ls at hl ⊢
  replace hl : lv_has ls 3 [(0, .ref w0), (1, .int 1), (2, .int sec)] := hl
  obtain ⟨t_1, zt_1, yt_1⟩ := hZ.1.1
  refine va_gets hx hb zt_1 va_S.rf hown (hts (.fieldLink RX5 79 "TheLiningsInIt$Ways" "POWERS" "[I") (List.mem_of_getElem? (i := 1) rfl)) (fun _ h9 => h9) dX5_leastAtOnce_0 ?_
  refine lv_iload_n hx hb dX5_leastAtOnce_3 rfl (lv_at hl 1 rfl) ?_
  refine va_ti hx hb yt_1 va_S.rf (zf_in (by decide) (by decide)) (v := .int 12) (by decide) dX5_leastAtOnce_4 ?_
  refine lv_aload_n hx hb dX5_leastAtOnce_5 rfl (lv_at hl 0 rfl) ?_
  refine va_get (D := D) (ci := 5) (v := .ref wc) (C := RX5) (T := TX5) (N := 7) hx hb hts hi_X5_leastAtOnce_5 hown hK hP 0 rfl rfl 2 (by decide) (hts (.fieldLink RX5 18 "TheLiningsInIt$Ways" "costs" "[I") (List.mem_of_getElem? (i := 2) rfl)) (fun _ h9 => h9) rfl dX5_leastAtOnce_6 ?_
  refine lv_aload_n hx hb dX5_leastAtOnce_9 rfl (lv_at hl 0 rfl) ?_
  refine lv_iload_n hx hb dX5_leastAtOnce_10 rfl (lv_at hl 2 rfl) ?_
  refine zc_V (As := [.int sec]) (rest := [.ref wc, .int 12]) ⟨hx, hb, hml, hown, hts⟩ (c_W_headIsCheapest l D cI cJ cZ cP cS po w0 wk wl wc wp (wn) (wh) (wg) fc (sec) hy0 hy1 hy2 hy3 hy4 hy5 hp_fc) (cwV 1 hts gX5_leastAtOnce_X5_headIsCheapest rfl rfl rfl ⟨rfl, dh_X5_headIsCheapest⟩ ⟨Nat.le_of_ble_eq_true rfl, Nat.le_of_ble_eq_true rfl⟩) hK hN hZ hP (hP.sub [0, 1] rfl) (va_recv (q := (RX5, TX5, 7)) hK hP (ci := 5) (q0 := 0) rfl rfl) rfl hl.1 rfl (Nat.le_of_ble_eq_true rfl) dX5_leastAtOnce_11 ⟨Nat.le_of_ble_eq_true rfl, Nat.le_of_ble_eq_true rfl⟩ (fun r_2 hr_2 => ?_)
  obtain ⟨g_3, g_4⟩ := hr_2
  refine lv_if_eq (tgt := 21) hx hb dX5_leastAtOnce_14 (by decide) (fun c_5 => ?_) (fun c_5 => ?_)
  · have fc_5 : r_2.toInt = 0 := zf_eq c_5 rfl (by decide)
    refine lv_iconst (v := 2) hx hb dX5_leastAtOnce_21 (by decide) ?_
    refine va_iald hx hb hK hP 1 0 rfl rfl (zf_in (by decide) (by decide)) dX5_leastAtOnce_22 ?_
    refine lv_topi (fun x_6 ex_6 => ?_)
    have bx_6 : 0 ≤ x_6.toInt ∧ x_6.toInt ≤ 99 := by rw [ex_6]; exact hp_fc _
    refine lv_imul hx hb dX5_leastAtOnce_23 ?_
    refine lv_topi (fun x_7 ex_7 => ?_)
    have qx_7 : x_7.toInt = 12 * x_6.toInt := by rw [ex_7]; exact zf_mul (by decide) rfl (by omega) (by omega)
    exact W.iret (v := x_7) hx hb hr (fun t ht hW => ⟨x_7, rfl, trivial, ht⟩) (fun q hq => by cases hq) dX5_leastAtOnce_24
  · have fc_5 : r_2.toInt ≠ 0 := zf_ne c_5 rfl (by decide)
    refine lv_iconst (v := 1) hx hb dX5_leastAtOnce_17 (by decide) ?_
    refine lv_goto (tgt := 22) hx hb dX5_leastAtOnce_18 (by decide) ?_
    refine va_iald hx hb hK hP 1 0 rfl rfl (zf_in (by decide) (by decide)) dX5_leastAtOnce_22 ?_
    refine lv_topi (fun x_8 ex_8 => ?_)
    have bx_8 : 0 ≤ x_8.toInt ∧ x_8.toInt ≤ 99 := by rw [ex_8]; exact hp_fc _
    refine lv_imul hx hb dX5_leastAtOnce_23 ?_
    refine lv_topi (fun x_9 ex_9 => ?_)
    have qx_9 : x_9.toInt = 12 * x_8.toInt := by rw [ex_9]; exact zf_mul (by decide) rfl (by omega) (by omega)
    exact W.iret (v := x_9) hx hb hr (fun t ht hW => ⟨x_9, rfl, trivial, ht⟩) (fun q hq => by cases hq) dX5_leastAtOnce_24
set_option maxHeartbeats 4000000 in
set_option maxRecDepth 100000 in
theorem c_W_leastAtOnce_2 (l : Launch) (D : va_G) (cI cJ cZ cP cS : ClassId) (po : zPool) (w0 wk wl wc wp : Nat) (wn wh wg : Int32) (fc : Nat → Int32) (sec : Int32) (hy0 : 0 ≤ wn.toInt) (hy1 : wn.toInt ≤ 8) (hy2 : 0 ≤ wh.toInt) (hy3 : wh.toInt ≤ 9) (hy4 : 0 ≤ wg.toInt) (hy5 : wg.toInt ≤ 60) (hp_fc : zRg fc (0) 99) : Met l yX5_leastAtOnce wsX5_leastAtOnce ({ frames := 1, cells := 0, slots := 0, locals := 21 }) (va_Pc [.ref w0, .int 2, .int sec] (zR D (zKT cI cJ cZ cP cS) po [(w0, .inr (5, [.ref wk, .ref wl, .ref wc, .ref wp, .int wn, .int wh, .int wg])), (wc, .inl (cI, 3, .inl fc))])) (vp_Si (fun r => True)) 0 0 (fun _ => False) := by
  refine Met.ofW (cc := cX5_leastAtOnce) (maxL := 3) (ret := (some .int)) (by decide) rfl ?_
  intro p e s m args below meth c s₁ B hml hv
  obtain ⟨rfl, hP, hK, hN, hZ⟩ := hv
  have hx := B.exec
  have hb := B.bytes
  have hr := B.returns
  have hts := atoms_spec (ws := wsX5_leastAtOnce) B.pre
  have hown : s.vm.findClass RX5 = some m.cls := findClass_of_methodNamed B.named
  have hlocks := B.notSynchronized
  have hl := lv_entry ([.ref w0, .int 2, .int sec]) (n := 3) (Nat.le_of_ble_eq_true rfl)
  rw [lg_entry_eq]
  generalize (lg_sl ([.ref w0, .int 2, .int sec]) ++ List.replicate (3 - (lg_sl ([.ref w0, .int 2, .int sec])).length) Slot.unset).toArray = ls at hl ⊢
  replace hl : lv_has ls 3 [(0, .ref w0), (1, .int 2), (2, .int sec)] := hl
  obtain ⟨t_1, zt_1, yt_1⟩ := hZ.1.1
  refine va_gets hx hb zt_1 va_S.rf hown (hts (.fieldLink RX5 79 "TheLiningsInIt$Ways" "POWERS" "[I") (List.mem_of_getElem? (i := 1) rfl)) (fun _ h9 => h9) dX5_leastAtOnce_0 ?_
  refine lv_iload_n hx hb dX5_leastAtOnce_3 rfl (lv_at hl 1 rfl) ?_
  refine va_ti hx hb yt_1 va_S.rf (zf_in (by decide) (by decide)) (v := .int 144) (by decide) dX5_leastAtOnce_4 ?_
  refine lv_aload_n hx hb dX5_leastAtOnce_5 rfl (lv_at hl 0 rfl) ?_
  refine va_get (D := D) (ci := 5) (v := .ref wc) (C := RX5) (T := TX5) (N := 7) hx hb hts hi_X5_leastAtOnce_5 hown hK hP 0 rfl rfl 2 (by decide) (hts (.fieldLink RX5 18 "TheLiningsInIt$Ways" "costs" "[I") (List.mem_of_getElem? (i := 2) rfl)) (fun _ h9 => h9) rfl dX5_leastAtOnce_6 ?_
  refine lv_aload_n hx hb dX5_leastAtOnce_9 rfl (lv_at hl 0 rfl) ?_
  refine lv_iload_n hx hb dX5_leastAtOnce_10 rfl (lv_at hl 2 rfl) ?_
  refine zc_V (As := [.int sec]) (rest := [.ref wc, .int 144]) ⟨hx, hb, hml, hown, hts⟩ (c_W_headIsCheapest l D cI cJ cZ cP cS po w0 wk wl wc wp (wn) (wh) (wg) fc (sec) hy0 hy1 hy2 hy3 hy4 hy5 hp_fc) (cwV 1 hts gX5_leastAtOnce_X5_headIsCheapest rfl rfl rfl ⟨rfl, dh_X5_headIsCheapest⟩ ⟨Nat.le_of_ble_eq_true rfl, Nat.le_of_ble_eq_true rfl⟩) hK hN hZ hP (hP.sub [0, 1] rfl) (va_recv (q := (RX5, TX5, 7)) hK hP (ci := 5) (q0 := 0) rfl rfl) rfl hl.1 rfl (Nat.le_of_ble_eq_true rfl) dX5_leastAtOnce_11 ⟨Nat.le_of_ble_eq_true rfl, Nat.le_of_ble_eq_true rfl⟩ (fun r_2 hr_2 => ?_)
  obtain ⟨g_3, g_4⟩ := hr_2
  refine lv_if_eq (tgt := 21) hx hb dX5_leastAtOnce_14 (by decide) (fun c_5 => ?_) (fun c_5 => ?_)
  · have fc_5 : r_2.toInt = 0 := zf_eq c_5 rfl (by decide)
    refine lv_iconst (v := 2) hx hb dX5_leastAtOnce_21 (by decide) ?_
    refine va_iald hx hb hK hP 1 0 rfl rfl (zf_in (by decide) (by decide)) dX5_leastAtOnce_22 ?_
    refine lv_topi (fun x_6 ex_6 => ?_)
    have bx_6 : 0 ≤ x_6.toInt ∧ x_6.toInt ≤ 99 := by rw [ex_6]; exact hp_fc _
    refine lv_imul hx hb dX5_leastAtOnce_23 ?_
    refine lv_topi (fun x_7 ex_7 => ?_)
    have qx_7 : x_7.toInt = 144 * x_6.toInt := by rw [ex_7]; exact zf_mul (by decide) rfl (by omega) (by omega)
    exact W.iret (v := x_7) hx hb hr (fun t ht hW => ⟨x_7, rfl, trivial, ht⟩) (fun q hq => by cases hq) dX5_leastAtOnce_24
  · have fc_5 : r_2.toInt ≠ 0 := zf_ne c_5 rfl (by decide)
    refine lv_iconst (v := 1) hx hb dX5_leastAtOnce_17 (by decide) ?_
    refine lv_goto (tgt := 22) hx hb dX5_leastAtOnce_18 (by decide) ?_
    refine va_iald hx hb hK hP 1 0 rfl rfl (zf_in (by decide) (by decide)) dX5_leastAtOnce_22 ?_
    refine lv_topi (fun x_8 ex_8 => ?_)
    have bx_8 : 0 ≤ x_8.toInt ∧ x_8.toInt ≤ 99 := by rw [ex_8]; exact hp_fc _
    refine lv_imul hx hb dX5_leastAtOnce_23 ?_
    refine lv_topi (fun x_9 ex_9 => ?_)
    have qx_9 : x_9.toInt = 144 * x_8.toInt := by rw [ex_9]; exact zf_mul (by decide) rfl (by omega) (by omega)
    exact W.iret (v := x_9) hx hb hr (fun t ht hW => ⟨x_9, rfl, trivial, ht⟩) (fun q hq => by cases hq) dX5_leastAtOnce_24
set_option maxHeartbeats 4000000 in
set_option maxRecDepth 100000 in
theorem c_W_leastAtOnce_3 (l : Launch) (D : va_G) (cI cJ cZ cP cS : ClassId) (po : zPool) (w0 wk wl wc wp : Nat) (wn wh wg : Int32) (fc : Nat → Int32) (sec : Int32) (hy0 : 0 ≤ wn.toInt) (hy1 : wn.toInt ≤ 8) (hy2 : 0 ≤ wh.toInt) (hy3 : wh.toInt ≤ 9) (hy4 : 0 ≤ wg.toInt) (hy5 : wg.toInt ≤ 60) (hp_fc : zRg fc (0) 99) : Met l yX5_leastAtOnce wsX5_leastAtOnce ({ frames := 1, cells := 0, slots := 0, locals := 21 }) (va_Pc [.ref w0, .int 3, .int sec] (zR D (zKT cI cJ cZ cP cS) po [(w0, .inr (5, [.ref wk, .ref wl, .ref wc, .ref wp, .int wn, .int wh, .int wg])), (wc, .inl (cI, 3, .inl fc))])) (vp_Si (fun r => True)) 0 0 (fun _ => False) := by
  refine Met.ofW (cc := cX5_leastAtOnce) (maxL := 3) (ret := (some .int)) (by decide) rfl ?_
  intro p e s m args below meth c s₁ B hml hv
  obtain ⟨rfl, hP, hK, hN, hZ⟩ := hv
  have hx := B.exec
  have hb := B.bytes
  have hr := B.returns
  have hts := atoms_spec (ws := wsX5_leastAtOnce) B.pre
  have hown : s.vm.findClass RX5 = some m.cls := findClass_of_methodNamed B.named
  have hlocks := B.notSynchronized
  have hl := lv_entry ([.ref w0, .int 3, .int sec]) (n := 3) (Nat.le_of_ble_eq_true rfl)
  rw [lg_entry_eq]
  generalize (lg_sl ([.ref w0, .int 3, .int sec]) ++ List.replicate (3 - (lg_sl ([.ref w0, .int 3, .int sec])).length) Slot.unset).toArray = ls at hl ⊢
  replace hl : lv_has ls 3 [(0, .ref w0), (1, .int 3), (2, .int sec)] := hl
  obtain ⟨t_1, zt_1, yt_1⟩ := hZ.1.1
  refine va_gets hx hb zt_1 va_S.rf hown (hts (.fieldLink RX5 79 "TheLiningsInIt$Ways" "POWERS" "[I") (List.mem_of_getElem? (i := 1) rfl)) (fun _ h9 => h9) dX5_leastAtOnce_0 ?_
  refine lv_iload_n hx hb dX5_leastAtOnce_3 rfl (lv_at hl 1 rfl) ?_
  refine va_ti hx hb yt_1 va_S.rf (zf_in (by decide) (by decide)) (v := .int 1728) (by decide) dX5_leastAtOnce_4 ?_
  refine lv_aload_n hx hb dX5_leastAtOnce_5 rfl (lv_at hl 0 rfl) ?_
  refine va_get (D := D) (ci := 5) (v := .ref wc) (C := RX5) (T := TX5) (N := 7) hx hb hts hi_X5_leastAtOnce_5 hown hK hP 0 rfl rfl 2 (by decide) (hts (.fieldLink RX5 18 "TheLiningsInIt$Ways" "costs" "[I") (List.mem_of_getElem? (i := 2) rfl)) (fun _ h9 => h9) rfl dX5_leastAtOnce_6 ?_
  refine lv_aload_n hx hb dX5_leastAtOnce_9 rfl (lv_at hl 0 rfl) ?_
  refine lv_iload_n hx hb dX5_leastAtOnce_10 rfl (lv_at hl 2 rfl) ?_
  refine zc_V (As := [.int sec]) (rest := [.ref wc, .int 1728]) ⟨hx, hb, hml, hown, hts⟩ (c_W_headIsCheapest l D cI cJ cZ cP cS po w0 wk wl wc wp (wn) (wh) (wg) fc (sec) hy0 hy1 hy2 hy3 hy4 hy5 hp_fc) (cwV 1 hts gX5_leastAtOnce_X5_headIsCheapest rfl rfl rfl ⟨rfl, dh_X5_headIsCheapest⟩ ⟨Nat.le_of_ble_eq_true rfl, Nat.le_of_ble_eq_true rfl⟩) hK hN hZ hP (hP.sub [0, 1] rfl) (va_recv (q := (RX5, TX5, 7)) hK hP (ci := 5) (q0 := 0) rfl rfl) rfl hl.1 rfl (Nat.le_of_ble_eq_true rfl) dX5_leastAtOnce_11 ⟨Nat.le_of_ble_eq_true rfl, Nat.le_of_ble_eq_true rfl⟩ (fun r_2 hr_2 => ?_)
  obtain ⟨g_3, g_4⟩ := hr_2
  refine lv_if_eq (tgt := 21) hx hb dX5_leastAtOnce_14 (by decide) (fun c_5 => ?_) (fun c_5 => ?_)
  · have fc_5 : r_2.toInt = 0 := zf_eq c_5 rfl (by decide)
    refine lv_iconst (v := 2) hx hb dX5_leastAtOnce_21 (by decide) ?_
    refine va_iald hx hb hK hP 1 0 rfl rfl (zf_in (by decide) (by decide)) dX5_leastAtOnce_22 ?_
    refine lv_topi (fun x_6 ex_6 => ?_)
    have bx_6 : 0 ≤ x_6.toInt ∧ x_6.toInt ≤ 99 := by rw [ex_6]; exact hp_fc _
    refine lv_imul hx hb dX5_leastAtOnce_23 ?_
    refine lv_topi (fun x_7 ex_7 => ?_)
    have qx_7 : x_7.toInt = 1728 * x_6.toInt := by rw [ex_7]; exact zf_mul (by decide) rfl (by omega) (by omega)
    exact W.iret (v := x_7) hx hb hr (fun t ht hW => ⟨x_7, rfl, trivial, ht⟩) (fun q hq => by cases hq) dX5_leastAtOnce_24
  · have fc_5 : r_2.toInt ≠ 0 := zf_ne c_5 rfl (by decide)
    refine lv_iconst (v := 1) hx hb dX5_leastAtOnce_17 (by decide) ?_
    refine lv_goto (tgt := 22) hx hb dX5_leastAtOnce_18 (by decide) ?_
    refine va_iald hx hb hK hP 1 0 rfl rfl (zf_in (by decide) (by decide)) dX5_leastAtOnce_22 ?_
    refine lv_topi (fun x_8 ex_8 => ?_)
    have bx_8 : 0 ≤ x_8.toInt ∧ x_8.toInt ≤ 99 := by rw [ex_8]; exact hp_fc _
    refine lv_imul hx hb dX5_leastAtOnce_23 ?_
    refine lv_topi (fun x_9 ex_9 => ?_)
    have qx_9 : x_9.toInt = 1728 * x_8.toInt := by rw [ex_9]; exact zf_mul (by decide) rfl (by omega) (by omega)
    exact W.iret (v := x_9) hx hb hr (fun t ht hW => ⟨x_9, rfl, trivial, ht⟩) (fun q hq => by cases hq) dX5_leastAtOnce_24
set_option maxHeartbeats 4000000 in
set_option maxRecDepth 100000 in
theorem c_W_leastAtOnce_4 (l : Launch) (D : va_G) (cI cJ cZ cP cS : ClassId) (po : zPool) (w0 wk wl wc wp : Nat) (wn wh wg : Int32) (fc : Nat → Int32) (sec : Int32) (hy0 : 0 ≤ wn.toInt) (hy1 : wn.toInt ≤ 8) (hy2 : 0 ≤ wh.toInt) (hy3 : wh.toInt ≤ 9) (hy4 : 0 ≤ wg.toInt) (hy5 : wg.toInt ≤ 60) (hp_fc : zRg fc (0) 99) : Met l yX5_leastAtOnce wsX5_leastAtOnce ({ frames := 1, cells := 0, slots := 0, locals := 21 }) (va_Pc [.ref w0, .int 4, .int sec] (zR D (zKT cI cJ cZ cP cS) po [(w0, .inr (5, [.ref wk, .ref wl, .ref wc, .ref wp, .int wn, .int wh, .int wg])), (wc, .inl (cI, 3, .inl fc))])) (vp_Si (fun r => True)) 0 0 (fun _ => False) := by
  refine Met.ofW (cc := cX5_leastAtOnce) (maxL := 3) (ret := (some .int)) (by decide) rfl ?_
  intro p e s m args below meth c s₁ B hml hv
  obtain ⟨rfl, hP, hK, hN, hZ⟩ := hv
  have hx := B.exec
  have hb := B.bytes
  have hr := B.returns
  have hts := atoms_spec (ws := wsX5_leastAtOnce) B.pre
  have hown : s.vm.findClass RX5 = some m.cls := findClass_of_methodNamed B.named
  have hlocks := B.notSynchronized
  have hl := lv_entry ([.ref w0, .int 4, .int sec]) (n := 3) (Nat.le_of_ble_eq_true rfl)
  rw [lg_entry_eq]
  generalize (lg_sl ([.ref w0, .int 4, .int sec]) ++ List.replicate (3 - (lg_sl ([.ref w0, .int 4, .int sec])).length) Slot.unset).toArray = ls at hl ⊢
  replace hl : lv_has ls 3 [(0, .ref w0), (1, .int 4), (2, .int sec)] := hl
  obtain ⟨t_1, zt_1, yt_1⟩ := hZ.1.1
  refine va_gets hx hb zt_1 va_S.rf hown (hts (.fieldLink RX5 79 "TheLiningsInIt$Ways" "POWERS" "[I") (List.mem_of_getElem? (i := 1) rfl)) (fun _ h9 => h9) dX5_leastAtOnce_0 ?_
  refine lv_iload_n hx hb dX5_leastAtOnce_3 rfl (lv_at hl 1 rfl) ?_
  refine va_ti hx hb yt_1 va_S.rf (zf_in (by decide) (by decide)) (v := .int 20736) (by decide) dX5_leastAtOnce_4 ?_
  refine lv_aload_n hx hb dX5_leastAtOnce_5 rfl (lv_at hl 0 rfl) ?_
  refine va_get (D := D) (ci := 5) (v := .ref wc) (C := RX5) (T := TX5) (N := 7) hx hb hts hi_X5_leastAtOnce_5 hown hK hP 0 rfl rfl 2 (by decide) (hts (.fieldLink RX5 18 "TheLiningsInIt$Ways" "costs" "[I") (List.mem_of_getElem? (i := 2) rfl)) (fun _ h9 => h9) rfl dX5_leastAtOnce_6 ?_
  refine lv_aload_n hx hb dX5_leastAtOnce_9 rfl (lv_at hl 0 rfl) ?_
  refine lv_iload_n hx hb dX5_leastAtOnce_10 rfl (lv_at hl 2 rfl) ?_
  refine zc_V (As := [.int sec]) (rest := [.ref wc, .int 20736]) ⟨hx, hb, hml, hown, hts⟩ (c_W_headIsCheapest l D cI cJ cZ cP cS po w0 wk wl wc wp (wn) (wh) (wg) fc (sec) hy0 hy1 hy2 hy3 hy4 hy5 hp_fc) (cwV 1 hts gX5_leastAtOnce_X5_headIsCheapest rfl rfl rfl ⟨rfl, dh_X5_headIsCheapest⟩ ⟨Nat.le_of_ble_eq_true rfl, Nat.le_of_ble_eq_true rfl⟩) hK hN hZ hP (hP.sub [0, 1] rfl) (va_recv (q := (RX5, TX5, 7)) hK hP (ci := 5) (q0 := 0) rfl rfl) rfl hl.1 rfl (Nat.le_of_ble_eq_true rfl) dX5_leastAtOnce_11 ⟨Nat.le_of_ble_eq_true rfl, Nat.le_of_ble_eq_true rfl⟩ (fun r_2 hr_2 => ?_)
  obtain ⟨g_3, g_4⟩ := hr_2
  refine lv_if_eq (tgt := 21) hx hb dX5_leastAtOnce_14 (by decide) (fun c_5 => ?_) (fun c_5 => ?_)
  · have fc_5 : r_2.toInt = 0 := zf_eq c_5 rfl (by decide)
    refine lv_iconst (v := 2) hx hb dX5_leastAtOnce_21 (by decide) ?_
    refine va_iald hx hb hK hP 1 0 rfl rfl (zf_in (by decide) (by decide)) dX5_leastAtOnce_22 ?_
    refine lv_topi (fun x_6 ex_6 => ?_)
    have bx_6 : 0 ≤ x_6.toInt ∧ x_6.toInt ≤ 99 := by rw [ex_6]; exact hp_fc _
    refine lv_imul hx hb dX5_leastAtOnce_23 ?_
    refine lv_topi (fun x_7 ex_7 => ?_)
    have qx_7 : x_7.toInt = 20736 * x_6.toInt := by rw [ex_7]; exact zf_mul (by decide) rfl (by omega) (by omega)
    exact W.iret (v := x_7) hx hb hr (fun t ht hW => ⟨x_7, rfl, trivial, ht⟩) (fun q hq => by cases hq) dX5_leastAtOnce_24
  · have fc_5 : r_2.toInt ≠ 0 := zf_ne c_5 rfl (by decide)
    refine lv_iconst (v := 1) hx hb dX5_leastAtOnce_17 (by decide) ?_
    refine lv_goto (tgt := 22) hx hb dX5_leastAtOnce_18 (by decide) ?_
    refine va_iald hx hb hK hP 1 0 rfl rfl (zf_in (by decide) (by decide)) dX5_leastAtOnce_22 ?_
    refine lv_topi (fun x_8 ex_8 => ?_)
    have bx_8 : 0 ≤ x_8.toInt ∧ x_8.toInt ≤ 99 := by rw [ex_8]; exact hp_fc _
    refine lv_imul hx hb dX5_leastAtOnce_23 ?_
    refine lv_topi (fun x_9 ex_9 => ?_)
    have qx_9 : x_9.toInt = 20736 * x_8.toInt := by rw [ex_9]; exact zf_mul (by decide) rfl (by omega) (by omega)
    exact W.iret (v := x_9) hx hb hr (fun t ht hW => ⟨x_9, rfl, trivial, ht⟩) (fun q hq => by cases hq) dX5_leastAtOnce_24
end
section
set_option maxHeartbeats 4000000 in
set_option maxRecDepth 100000 in
theorem c_W_most_0 (l : Launch) (D : va_G) (cI cJ cZ cP cS : ClassId) (po : zPool) (w0 wk wl wc wp : Nat) (wn wh wg : Int32) (fp : Nat → Option Nat) (fk : Nat → Int32) (d sec : Int32) (hy0 : 0 ≤ wn.toInt) (hy1 : wn.toInt ≤ 8) (hy2 : 0 ≤ wh.toInt) (hy3 : wh.toInt ≤ 9) (hy4 : 0 ≤ wg.toInt) (hy5 : wg.toInt ≤ 60) (hwp : zWP po fp) (hy7 : 0 ≤ d.toInt) (hy8 : d.toInt ≤ 24) (hpz : Nat) : Met l yX5_most wsX5_most ({ frames := 0, cells := 0, slots := 0, locals := 0 }) (va_Pc [.ref w0, .int 0, .int d, .int sec] (zW D (zKT cI cJ cZ cP cS) po [(w0, .inr (5, [.ref wk, .ref wl, .ref wc, .ref wp, .int wn, .int wh, .int wg])), (wk, .inl (cI, 125, .inl fk)), (wp, .inl (cP, 8, .inr (.inr (.inr (.inr fp)))))] hpz)) (va_Qi (fun (r : Int32) (fk2 : (Nat → Int32)) => True) (zB D [(w0, .inr (5, [.ref wk, .ref wl, .ref wc, .ref wp, .int wn, .int wh, .int wg])), (wk, .inl (cI, 125, .inl fk)), (wp, .inl (cP, 8, .inr (.inr (.inr (.inr fp)))))] hpz (fun (fk2 : Nat → Int32) => [(w0, .inr (5, [.ref wk, .ref wl, .ref wc, .ref wp, .int wn, .int wh, .int wg])), (wk, .inl (cI, 125, .inl fk2)), (wp, .inl (cP, 8, .inr (.inr (.inr (.inr fp)))))])) (va_A [(w0, .inr (5, [.ref wk, .ref wl, .ref wc, .ref wp, .int wn, .int wh, .int wg])), (wk, .inl (cI, 125, .inl fk)), (wp, .inl (cP, 8, .inr (.inr (.inr (.inr fp)))))] hpz)) 0 0 (va_A [(w0, .inr (5, [.ref wk, .ref wl, .ref wc, .ref wp, .int wn, .int wh, .int wg])), (wk, .inl (cI, 125, .inl fk)), (wp, .inl (cP, 8, .inr (.inr (.inr (.inr fp)))))] hpz) := by
  refine Met.ofW (cc := cX5_most) (maxL := 9) (ret := (some .int)) (by decide) rfl ?_
  intro p e s m args below meth c s₁ B hml hv
  obtain ⟨rfl, hsz, hP, hK, hD0, hN, hZ⟩ := hv
  have hx := B.exec
  have hb := B.bytes
  have hr := B.returns
  have hts := atoms_spec (ws := wsX5_most) B.pre
  have hown : s.vm.findClass RX5 = some m.cls := findClass_of_methodNamed B.named
  have hlocks := B.notSynchronized
  subst hsz
  have hD := hD0.self (sz := s.heap.size)
  have hA := zA_of hD
  have hl := lv_entry ([.ref w0, .int 0, .int d, .int sec]) (n := 9) (Nat.le_of_ble_eq_true rfl)
  rw [lg_entry_eq]
  generalize (lg_sl ([.ref w0, .int 0, .int d, .int sec]) ++ List.replicate (9 - (lg_sl ([.ref w0, .int 0, .int d, .int sec])).length) Slot.unset).toArray = ls at hl ⊢
  replace hl : lv_has ls 9 [(0, .ref w0), (1, .int 0), (2, .int d), (3, .int sec)] := hl
  refine zw_begin hP hD (fun H locs hP1 hS => ?_)
  clear hP
  have hP := hP1
  clear hP1
  refine lv_iload_n hx hb dX5_most_0 rfl (lv_at hl 1 rfl) ?_
  refine lv_if_lt (tgt := 19) hx hb dX5_most_1 (by decide) (fun c_1 => ?_) (fun c_1 => ?_)
  · exact absurd c_1 (by decide)
  · refine lv_iload_n hx hb dX5_most_4 rfl (lv_at hl 1 rfl) ?_
    refine lv_iconst (v := 4) hx hb dX5_most_5 (by decide) ?_
    refine lv_icmp_gt (tgt := 19) hx hb dX5_most_6 (by decide) (fun c_2 => ?_) (fun c_2 => ?_)
    · exact absurd c_2 (by decide)
    · refine lv_iload_n hx hb dX5_most_9 rfl (lv_at hl 2 rfl) ?_
      refine lv_if_lt (tgt := 19) hx hb dX5_most_10 (by decide) (fun c_3 => ?_) (fun c_3 => ?_)
      · exfalso; have fc_3 : d.toInt < 0 := zf_lt c_3 rfl (by decide); omega
      · have fc_3 : 0 ≤ d.toInt := zf_nlt c_3 rfl (by decide)
        refine lv_iload_n hx hb dX5_most_13 rfl (lv_at hl 2 rfl) ?_
        refine lv_bipush (v := 24) hx hb dX5_most_14 (by decide) ?_
        refine lv_icmp_le (tgt := 21) hx hb dX5_most_16 (by decide) (fun c_4 => ?_) (fun c_4 => ?_)
        · have fc_4 : d.toInt ≤ 24 := zf_le c_4 rfl (by decide)
          refine lv_iload_n hx hb dX5_most_21 rfl (lv_at hl 2 rfl) ?_
          refine lv_if_eq (tgt := 29) hx hb dX5_most_22 (by decide) (fun c_5 => ?_) (fun c_5 => ?_)
          · have fc_5 : d.toInt = 0 := zf_eq c_5 rfl (by decide)
            refine lv_iload_n hx hb dX5_most_29 rfl (lv_at hl 2 rfl) ?_
            refine lv_if_ne (tgt := 41) hx hb dX5_most_30 (by decide) (fun c_6 => ?_) (fun c_6 => ?_)
            · exfalso; have fc_6 : d.toInt ≠ 0 := zf_ne c_6 rfl (by decide); omega
            · have fc_6 : d.toInt = 0 := zf_eq c_6 rfl (by decide)
              obtain ⟨t_7, zt_7, yt_7⟩ := hZ.1.1
              refine va_gets hx hb zt_7 hS hown (hts (.fieldLink RX5 79 "TheLiningsInIt$Ways" "POWERS" "[I") (List.mem_of_getElem? (i := 1) rfl)) (fun _ h9 => h9) dX5_most_33 ?_
              refine lv_iload_n hx hb dX5_most_36 rfl (lv_at hl 1 rfl) ?_
              refine va_ti hx hb yt_7 hS (zf_in (by decide) (by decide)) (v := .int 1) (by decide) dX5_most_37 ?_
              refine lv_goto (tgt := 42) hx hb dX5_most_38 (by decide) ?_
              exact W.iret (v := 1) hx hb hr (fun t ht hW => ⟨⟨1, fk, rfl, trivial, zRet ht hP hD [0, 1, 2] (by decide) rfl⟩, hS.F ht⟩) hS.2.2 dX5_most_42
          · have fc_5 : d.toInt ≠ 0 := zf_ne c_5 rfl (by decide)
            refine lv_iload_n hx hb dX5_most_25 rfl (lv_at hl 1 rfl) ?_
            refine lv_if_ne (tgt := 43) hx hb dX5_most_26 (by decide) (fun c_8 => ?_) (fun c_8 => ?_)
            · exact absurd c_8 (by decide)
            · refine lv_iload_n hx hb dX5_most_29 rfl (lv_at hl 2 rfl) ?_
              refine lv_if_ne (tgt := 41) hx hb dX5_most_30 (by decide) (fun c_9 => ?_) (fun c_9 => ?_)
              · have fc_9 : d.toInt ≠ 0 := zf_ne c_9 rfl (by decide)
                refine lv_iconst (v := 0) hx hb dX5_most_41 (by decide) ?_
                exact W.iret (v := 0) hx hb hr (fun t ht hW => ⟨⟨0, fk, rfl, trivial, zRet ht hP hD [0, 1, 2] (by decide) rfl⟩, hS.F ht⟩) hS.2.2 dX5_most_42
              · exfalso; have fc_9 : d.toInt = 0 := zf_eq c_9 rfl (by decide); omega
        · exfalso; have fc_4 : 24 < d.toInt := zf_nle c_4 rfl (by decide); omega
theorem hi_X5_mostBy_5 : ∀ w ∈ u_ws RX5 TX5 7, w ∈ wsX5_mostBy := fun w h => (gl_X5_mostBy_X50 w h).1
theorem hi_X5_mostBy_2 : ∀ w ∈ u_ws RX2 TX2 3, w ∈ wsX5_mostBy := fun w h => (gl_X5_mostBy_X20 w h).1
set_option maxHeartbeats 4000000 in
set_option maxRecDepth 100000 in
theorem c_W_mostBy_1 (l : Launch) (D : va_G) (cI cJ cZ cP cS : ClassId) (po : zPool) (w0 wk wl wc wp : Nat) (wn wh wg : Int32) (fp : Nat → Option Nat) (fk : Nat → Int32) (d sec : Int32) (u0 : Nat) (ki a_ ta : Int32) (hu_u0 : zPu po u0 ki a_ ta) (hr_u0 : zPr ki a_ ta) (hy2 : 0 ≤ wn.toInt) (hy3 : wn.toInt ≤ 8) (hy4 : 0 ≤ wh.toInt) (hy5 : wh.toInt ≤ 9) (hy6 : 0 ≤ wg.toInt) (hy7 : wg.toInt ≤ 60) (hwp : zWP po fp) (hy9 : 0 ≤ d.toInt) (hy10 : d.toInt ≤ 24) (hpz : Nat) : Met l yX5_mostBy wsX5_mostBy ({ frames := 2, cells := 0, slots := 0, locals := 44 }) (va_Pc [.ref w0, .ref u0, .int 1, .int d, .int sec] (zW D (zKT cI cJ cZ cP cS) po [(w0, .inr (5, [.ref wk, .ref wl, .ref wc, .ref wp, .int wn, .int wh, .int wg])), (wk, .inl (cI, 125, .inl fk)), (wp, .inl (cP, 8, .inr (.inr (.inr (.inr fp)))))] hpz)) (va_Qi (fun (r : Int32) (fk2 : (Nat → Int32)) => True) (zB D [(w0, .inr (5, [.ref wk, .ref wl, .ref wc, .ref wp, .int wn, .int wh, .int wg])), (wk, .inl (cI, 125, .inl fk)), (wp, .inl (cP, 8, .inr (.inr (.inr (.inr fp)))))] hpz (fun (fk2 : Nat → Int32) => [(w0, .inr (5, [.ref wk, .ref wl, .ref wc, .ref wp, .int wn, .int wh, .int wg])), (wk, .inl (cI, 125, .inl fk2)), (wp, .inl (cP, 8, .inr (.inr (.inr (.inr fp)))))])) (va_A [(w0, .inr (5, [.ref wk, .ref wl, .ref wc, .ref wp, .int wn, .int wh, .int wg])), (wk, .inl (cI, 125, .inl fk)), (wp, .inl (cP, 8, .inr (.inr (.inr (.inr fp)))))] hpz)) 0 0 (va_A [(w0, .inr (5, [.ref wk, .ref wl, .ref wc, .ref wp, .int wn, .int wh, .int wg])), (wk, .inl (cI, 125, .inl fk)), (wp, .inl (cP, 8, .inr (.inr (.inr (.inr fp)))))] hpz) := by
  refine Met.ofW (cc := cX5_mostBy) (maxL := 8) (ret := (some .int)) (by decide) rfl ?_
  intro p e s m args below meth c s₁ B hml hv
  obtain ⟨rfl, hsz, hP, hK, hD0, hN, hZ⟩ := hv
  have hx := B.exec
  have hb := B.bytes
  have hr := B.returns
  have hts := atoms_spec (ws := wsX5_mostBy) B.pre
  have hown : s.vm.findClass RX5 = some m.cls := findClass_of_methodNamed B.named
  have hlocks := B.notSynchronized
  subst hsz
  have hD := hD0.self (sz := s.heap.size)
  have hA := zA_of hD
  have hl := lv_entry ([.ref w0, .ref u0, .int 1, .int d, .int sec]) (n := 8) (Nat.le_of_ble_eq_true rfl)
  rw [lg_entry_eq]
  generalize (lg_sl ([.ref w0, .ref u0, .int 1, .int d, .int sec]) ++ List.replicate (8 - (lg_sl ([.ref w0, .ref u0, .int 1, .int d, .int sec])).length) Slot.unset).toArray = ls at hl ⊢
  replace hl : lv_has ls 8 [(0, .ref w0), (1, .ref u0), (2, .int 1), (3, .int d), (4, .int sec)] := hl
  refine zw_begin hP hD (fun H locs hP1 hS => ?_)
  clear hP
  have hP := hP1
  clear hP1
  obtain ⟨⟨p1_u0, p2_u0⟩, ⟨p3_u0, p4_u0⟩, p5_u0, p6_u0⟩ := id hr_u0
  refine lv_aload_n hx hb dX5_mostBy_0 rfl (lv_at hl 1 rfl) ?_
  refine lv_iload_n hx hb dX5_mostBy_1 rfl (lv_at hl 3 rfl) ?_
  refine lv_aload_n hx hb dX5_mostBy_2 rfl (lv_at hl 0 rfl) ?_
  refine va_get (D := D) (ci := 5) (v := .int wh) (C := RX5) (T := TX5) (N := 7) hx hb hts hi_X5_mostBy_5 hown hK hP 0 rfl rfl 5 (by decide) (hts (.fieldLink RX5 31 "TheLiningsInIt$Ways" "hurry" "I") (List.mem_of_getElem? (i := 1) rfl)) (fun _ h9 => h9) rfl dX5_mostBy_3 ?_
  refine zc_V (As := [.int d, .int wh]) (rest := []) ⟨hx, hb, hml, hown, hts⟩ (c_Pull_waysAt l D cI cJ cZ cP cS po (d) (wh) u0 (ki) (a_) (ta) hu_u0 ⟨by omega, by omega, by omega, by omega⟩ hy9 hy10 hy4 hy5) (cwV 2 hts gX5_mostBy_X2_waysAt rfl rfl rfl ⟨rfl, dh_X2_waysAt⟩ ⟨Nat.le_of_ble_eq_true rfl, Nat.le_of_ble_eq_true rfl⟩) hK hN (hZ.kept hS) hP zP_nil (va_recv (q := (RX2, TX2, 3)) hK (zPu_P (hZ.kept hS) hu_u0) (ci := 2) (q0 := 0) rfl rfl) rfl hl.1 rfl (Nat.le_of_ble_eq_true rfl) dX5_mostBy_6 ⟨Nat.le_of_ble_eq_true rfl, Nat.le_of_ble_eq_true rfl⟩ (fun r_1 hr_1 => ?_)
  obtain ⟨g_2, g_3⟩ := hr_1
  refine lv_istore (lv' := [(5, .int r_1), (0, .ref w0), (1, .ref u0), (2, .int 1), (3, .int d), (4, .int sec)]) hx hb dX5_mostBy_9 hl (by decide) rfl (fun ls hl => ?_)
  refine lv_iload hx hb dX5_mostBy_11 (lv_at hl 5 rfl) ?_
  refine lv_aload_n hx hb dX5_mostBy_13 rfl (lv_at hl 2 rfl) ?_
  refine va_get (D := D) (ci := 2) (v := .int ta) (C := RX2) (T := TX2) (N := 3) hx hb hts hi_X5_mostBy_2 hown hK (zPu_P (hZ.kept hS) hu_u0) 0 rfl rfl 2 (by decide) (hts (.fieldLink RX5 49 "TheLiningsInIt$Pull" "takes" "I") (List.mem_of_getElem? (i := 2) rfl)) (fun _ h9 => h9) rfl dX5_mostBy_14 ?_
  refine lv_isub hx hb dX5_mostBy_17 ?_
  refine lv_topi (fun x_4 ex_4 => ?_)
  refine lv_istore (lv' := [(6, .int x_4), (5, .int r_1), (0, .ref w0), (1, .ref u0), (2, .int 1), (3, .int d), (4, .int sec)]) hx hb dX5_mostBy_18 hl (by decide) rfl (fun ls hl => ?_)
  refine lv_iconst (v := 0) hx hb dX5_mostBy_20 (by decide) ?_
  refine lv_istore (lv' := [(7, .int 0), (6, .int x_4), (5, .int r_1), (0, .ref w0), (1, .ref u0), (2, .int 1), (3, .int d), (4, .int sec)]) hx hb dX5_mostBy_21 hl (by decide) rfl (fun ls hl => ?_)
  refine lv_iload hx hb dX5_mostBy_23 (lv_at hl 2 rfl) ?_
  refine lv_if_le (tgt := 50) hx hb dX5_mostBy_25 (by decide) (fun c_5 => ?_) (fun c_5 => ?_)
  · have fc_5 : r_1.toInt ≤ 0 := zf_le c_5 rfl (by decide)
    refine lv_iload hx hb dX5_mostBy_50 (lv_at hl 2 rfl) ?_
    refine lv_bipush (v := 12) hx hb dX5_mostBy_52 (by decide) ?_
    refine lv_icmp_ge (tgt := 86) hx hb dX5_mostBy_54 (by decide) (fun c_6 => ?_) (fun c_6 => ?_)
    · exfalso; have fc_6 : 12 ≤ r_1.toInt := zf_le c_6 (by decide) rfl; omega
    · have fc_6 : r_1.toInt < 12 := zf_nle c_6 (by decide) rfl
      refine lv_iload hx hb dX5_mostBy_57 (lv_at hl 0 rfl) ?_
      refine lv_bipush (v := 12) hx hb dX5_mostBy_59 (by decide) ?_
      refine lv_iload hx hb dX5_mostBy_61 (lv_at hl 2 rfl) ?_
      refine lv_isub hx hb dX5_mostBy_63 ?_
      refine lv_topi (fun x_7 ex_7 => ?_)
      have qx_7 : x_7.toInt = 12 - r_1.toInt := by rw [ex_7]; exact zf_sub (by decide) rfl (by omega) (by omega)
      refine lv_aload_n hx hb dX5_mostBy_64 rfl (lv_at hl 3 rfl) ?_
      refine lv_iload_n hx hb dX5_mostBy_65 rfl (lv_at hl 5 rfl) ?_
      refine lv_iconst (v := 1) hx hb dX5_mostBy_66 (by decide) ?_
      refine lv_isub hx hb dX5_mostBy_67 ?_
      refine lv_topi (fun y_8 ey_8 => ?_)
      obtain rfl : y_8 = 0 := ey_8.trans (by decide)
      refine lv_aload_n hx hb dX5_mostBy_68 rfl (lv_at hl 4 rfl) ?_
      refine lv_iload_n hx hb dX5_mostBy_69 rfl (lv_at hl 6 rfl) ?_
      refine lv_aload_n hx hb dX5_mostBy_70 rfl (lv_at hl 3 rfl) ?_
      refine va_get (D := D) (ci := 5) (v := .int wh) (C := RX5) (T := TX5) (N := 7) hx hb hts hi_X5_mostBy_5 hown hK hP 0 rfl rfl 5 (by decide) (hts (.fieldLink RX5 31 "TheLiningsInIt$Ways" "hurry" "I") (List.mem_of_getElem? (i := 1) rfl)) (fun _ h9 => h9) rfl dX5_mostBy_71 ?_
      refine zc_V (As := [.int d, .int wh]) (rest := [.int 0, .ref w0, .int x_7, .int 0]) ⟨hx, hb, hml, hown, hts⟩ (c_Pull_deeper l D cI cJ cZ cP cS po (d) (wh) u0 (ki) (a_) (ta) hu_u0 ⟨by omega, by omega, by omega, by omega⟩ hy9 hy10 hy4 hy5) (cwV 2 hts gX5_mostBy_X2_deeper rfl rfl rfl ⟨rfl, dh_X2_deeper⟩ ⟨Nat.le_of_ble_eq_true rfl, Nat.le_of_ble_eq_true rfl⟩) hK hN (hZ.kept hS) hP zP_nil (va_recv (q := (RX2, TX2, 3)) hK (zPu_P (hZ.kept hS) hu_u0) (ci := 2) (q0 := 0) rfl rfl) rfl hl.1 rfl (Nat.le_of_ble_eq_true rfl) dX5_mostBy_74 ⟨Nat.le_of_ble_eq_true rfl, Nat.le_of_ble_eq_true rfl⟩ (fun r_9 hr_9 => ?_)
      obtain ⟨g_10, g_11⟩ := hr_9
      refine lv_iload hx hb dX5_mostBy_77 (lv_at hl 1 rfl) ?_
      skip
      refine zw_V (As := [.int 0, .int r_9, .int x_4]) (rest := [.int x_7, .int 0]) (wr := []) ⟨hx, hb, hml, hown, hts⟩ (c_W_most_0 l D cI cJ cZ cP cS po w0 wk wl wc wp (wn) (wh) (wg) fp fk (r_9) (x_4) hy2 hy3 hy4 hy5 hy6 hy7 hwp (by omega) (by omega) H.size) (cwV 3 hts gX5_mostBy_X5_most rfl rfl rfl ⟨rfl, dh_X5_most⟩ ⟨Nat.le_of_ble_eq_true rfl, Nat.le_of_ble_eq_true rfl⟩) hK hN (hZ.kept hS) hP hD hS hA [0, 1, 2] [] rfl rfl (by decide) (by decide) (by decide) (va_recv (q := (RX5, TX5, 7)) hK hP (ci := 5) (q0 := 0) rfl rfl) rfl hl.1 rfl (Nat.le_of_ble_eq_true rfl) dX5_mostBy_79 ⟨Nat.le_of_ble_eq_true rfl, Nat.le_of_ble_eq_true rfl⟩ (fun r_12 u_13 H locs hr_12 hP hD hS => ?_)
      obtain ⟨q_14, rfl⟩ : ∃ z, z = u_13 := ⟨_, rfl⟩
      have h9R := zRe (ws' := [(w0, .inr (5, [.ref wk, .ref wl, .ref wc, .ref wp, .int wn, .int wh, .int wg])), (wk, .inl (cI, 125, .inl q_14)), (wp, .inl (cP, 8, .inr (.inr (.inr (.inr fp)))))]) hP hD rfl
      clear hP hD
      obtain ⟨hP, hD⟩ := h9R
      refine lv_imul hx hb dX5_mostBy_82 ?_
      refine lv_topi (fun x_15 ex_15 => ?_)
      refine lv_iadd hx hb dX5_mostBy_83 ?_
      refine lv_topi (fun x_16 ex_16 => ?_)
      have rbx_16 := zf_rng x_15
      have qx_16 : x_16.toInt = 0 + x_15.toInt := by rw [ex_16]; exact zf_add (by decide) rfl (by omega) (by omega)
      refine lv_istore (lv' := [(7, .int x_16), (6, .int x_4), (5, .int r_1), (0, .ref w0), (1, .ref u0), (2, .int 1), (3, .int d), (4, .int sec)]) hx hb dX5_mostBy_84 hl (by decide) rfl (fun ls hl => ?_)
      refine lv_iload hx hb dX5_mostBy_86 (lv_at hl 0 rfl) ?_
      exact W.iret (v := x_16) hx hb hr (fun t ht hW => ⟨⟨x_16, q_14, rfl, trivial, zRet ht hP hD [0, 1, 2] (by decide) rfl⟩, hS.F ht⟩) hS.2.2 dX5_mostBy_88
  · have fc_5 : 0 < r_1.toInt := zf_nle c_5 rfl (by decide)
    refine lv_iload hx hb dX5_mostBy_28 (lv_at hl 0 rfl) ?_
    refine lv_iload hx hb dX5_mostBy_30 (lv_at hl 2 rfl) ?_
    refine lv_aload_n hx hb dX5_mostBy_32 rfl (lv_at hl 3 rfl) ?_
    refine lv_iload_n hx hb dX5_mostBy_33 rfl (lv_at hl 5 rfl) ?_
    refine lv_iconst (v := 1) hx hb dX5_mostBy_34 (by decide) ?_
    refine lv_isub hx hb dX5_mostBy_35 ?_
    refine lv_topi (fun y_17 ey_17 => ?_)
    obtain rfl : y_17 = 0 := ey_17.trans (by decide)
    refine lv_aload_n hx hb dX5_mostBy_36 rfl (lv_at hl 4 rfl) ?_
    refine lv_iload_n hx hb dX5_mostBy_37 rfl (lv_at hl 6 rfl) ?_
    refine zc_V (As := [.int d]) (rest := [.int 0, .ref w0, .int r_1, .int 0]) ⟨hx, hb, hml, hown, hts⟩ (c_Pull_shallower l D cI cJ cZ cP cS po (d) u0 (ki) (a_) (ta) hu_u0 ⟨by omega, by omega, by omega, by omega⟩ hy9 hy10) (cwV 1 hts gX5_mostBy_X2_shallower rfl rfl rfl ⟨rfl, dh_X2_shallower⟩ ⟨Nat.le_of_ble_eq_true rfl, Nat.le_of_ble_eq_true rfl⟩) hK hN (hZ.kept hS) hP zP_nil (va_recv (q := (RX2, TX2, 3)) hK (zPu_P (hZ.kept hS) hu_u0) (ci := 2) (q0 := 0) rfl rfl) rfl hl.1 rfl (Nat.le_of_ble_eq_true rfl) dX5_mostBy_38 ⟨Nat.le_of_ble_eq_true rfl, Nat.le_of_ble_eq_true rfl⟩ (fun r_18 hr_18 => ?_)
    obtain ⟨g_19, g_20⟩ := hr_18
    refine lv_iload hx hb dX5_mostBy_41 (lv_at hl 1 rfl) ?_
    skip
    refine zw_V (As := [.int 0, .int r_18, .int x_4]) (rest := [.int r_1, .int 0]) (wr := []) ⟨hx, hb, hml, hown, hts⟩ (c_W_most_0 l D cI cJ cZ cP cS po w0 wk wl wc wp (wn) (wh) (wg) fp fk (r_18) (x_4) hy2 hy3 hy4 hy5 hy6 hy7 hwp (by omega) (by omega) H.size) (cwV 3 hts gX5_mostBy_X5_most rfl rfl rfl ⟨rfl, dh_X5_most⟩ ⟨Nat.le_of_ble_eq_true rfl, Nat.le_of_ble_eq_true rfl⟩) hK hN (hZ.kept hS) hP hD hS hA [0, 1, 2] [] rfl rfl (by decide) (by decide) (by decide) (va_recv (q := (RX5, TX5, 7)) hK hP (ci := 5) (q0 := 0) rfl rfl) rfl hl.1 rfl (Nat.le_of_ble_eq_true rfl) dX5_mostBy_43 ⟨Nat.le_of_ble_eq_true rfl, Nat.le_of_ble_eq_true rfl⟩ (fun r_21 u_22 H locs hr_21 hP hD hS => ?_)
    obtain ⟨q_23, rfl⟩ : ∃ z, z = u_22 := ⟨_, rfl⟩
    have h9R := zRe (ws' := [(w0, .inr (5, [.ref wk, .ref wl, .ref wc, .ref wp, .int wn, .int wh, .int wg])), (wk, .inl (cI, 125, .inl q_23)), (wp, .inl (cP, 8, .inr (.inr (.inr (.inr fp)))))]) hP hD rfl
    clear hP hD
    obtain ⟨hP, hD⟩ := h9R
    refine lv_imul hx hb dX5_mostBy_46 ?_
    refine lv_topi (fun x_24 ex_24 => ?_)
    refine lv_iadd hx hb dX5_mostBy_47 ?_
    refine lv_topi (fun x_25 ex_25 => ?_)
    have rbx_25 := zf_rng x_24
    have qx_25 : x_25.toInt = 0 + x_24.toInt := by rw [ex_25]; exact zf_add (by decide) rfl (by omega) (by omega)
    refine lv_istore (lv' := [(7, .int x_25), (6, .int x_4), (5, .int r_1), (0, .ref w0), (1, .ref u0), (2, .int 1), (3, .int d), (4, .int sec)]) hx hb dX5_mostBy_48 hl (by decide) rfl (fun ls hl => ?_)
    refine lv_iload hx hb dX5_mostBy_50 (lv_at hl 2 rfl) ?_
    refine lv_bipush (v := 12) hx hb dX5_mostBy_52 (by decide) ?_
    refine lv_icmp_ge (tgt := 86) hx hb dX5_mostBy_54 (by decide) (fun c_26 => ?_) (fun c_26 => ?_)
    · have fc_26 : 12 ≤ r_1.toInt := zf_le c_26 (by decide) rfl
      refine lv_iload hx hb dX5_mostBy_86 (lv_at hl 0 rfl) ?_
      exact W.iret (v := x_25) hx hb hr (fun t ht hW => ⟨⟨x_25, q_23, rfl, trivial, zRet ht hP hD [0, 1, 2] (by decide) rfl⟩, hS.F ht⟩) hS.2.2 dX5_mostBy_88
    · have fc_26 : r_1.toInt < 12 := zf_nle c_26 (by decide) rfl
      refine lv_iload hx hb dX5_mostBy_57 (lv_at hl 0 rfl) ?_
      refine lv_bipush (v := 12) hx hb dX5_mostBy_59 (by decide) ?_
      refine lv_iload hx hb dX5_mostBy_61 (lv_at hl 2 rfl) ?_
      refine lv_isub hx hb dX5_mostBy_63 ?_
      refine lv_topi (fun x_27 ex_27 => ?_)
      have qx_27 : x_27.toInt = 12 - r_1.toInt := by rw [ex_27]; exact zf_sub (by decide) rfl (by omega) (by omega)
      refine lv_aload_n hx hb dX5_mostBy_64 rfl (lv_at hl 3 rfl) ?_
      refine lv_iload_n hx hb dX5_mostBy_65 rfl (lv_at hl 5 rfl) ?_
      refine lv_iconst (v := 1) hx hb dX5_mostBy_66 (by decide) ?_
      refine lv_isub hx hb dX5_mostBy_67 ?_
      refine lv_topi (fun y_28 ey_28 => ?_)
      obtain rfl : y_28 = 0 := ey_28.trans (by decide)
      refine lv_aload_n hx hb dX5_mostBy_68 rfl (lv_at hl 4 rfl) ?_
      refine lv_iload_n hx hb dX5_mostBy_69 rfl (lv_at hl 6 rfl) ?_
      refine lv_aload_n hx hb dX5_mostBy_70 rfl (lv_at hl 3 rfl) ?_
      refine va_get (D := D) (ci := 5) (v := .int wh) (C := RX5) (T := TX5) (N := 7) hx hb hts hi_X5_mostBy_5 hown hK hP 0 rfl rfl 5 (by decide) (hts (.fieldLink RX5 31 "TheLiningsInIt$Ways" "hurry" "I") (List.mem_of_getElem? (i := 1) rfl)) (fun _ h9 => h9) rfl dX5_mostBy_71 ?_
      refine zc_V (As := [.int d, .int wh]) (rest := [.int 0, .ref w0, .int x_27, .int x_25]) ⟨hx, hb, hml, hown, hts⟩ (c_Pull_deeper l D cI cJ cZ cP cS po (d) (wh) u0 (ki) (a_) (ta) hu_u0 ⟨by omega, by omega, by omega, by omega⟩ hy9 hy10 hy4 hy5) (cwV 2 hts gX5_mostBy_X2_deeper rfl rfl rfl ⟨rfl, dh_X2_deeper⟩ ⟨Nat.le_of_ble_eq_true rfl, Nat.le_of_ble_eq_true rfl⟩) hK hN (hZ.kept hS) hP zP_nil (va_recv (q := (RX2, TX2, 3)) hK (zPu_P (hZ.kept hS) hu_u0) (ci := 2) (q0 := 0) rfl rfl) rfl hl.1 rfl (Nat.le_of_ble_eq_true rfl) dX5_mostBy_74 ⟨Nat.le_of_ble_eq_true rfl, Nat.le_of_ble_eq_true rfl⟩ (fun r_29 hr_29 => ?_)
      obtain ⟨g_30, g_31⟩ := hr_29
      refine lv_iload hx hb dX5_mostBy_77 (lv_at hl 1 rfl) ?_
      skip
      refine zw_V (As := [.int 0, .int r_29, .int x_4]) (rest := [.int x_27, .int x_25]) (wr := []) ⟨hx, hb, hml, hown, hts⟩ (c_W_most_0 l D cI cJ cZ cP cS po w0 wk wl wc wp (wn) (wh) (wg) fp q_23 (r_29) (x_4) hy2 hy3 hy4 hy5 hy6 hy7 hwp (by omega) (by omega) H.size) (cwV 3 hts gX5_mostBy_X5_most rfl rfl rfl ⟨rfl, dh_X5_most⟩ ⟨Nat.le_of_ble_eq_true rfl, Nat.le_of_ble_eq_true rfl⟩) hK hN (hZ.kept hS) hP hD hS hA [0, 1, 2] [] rfl rfl (by decide) (by decide) (by decide) (va_recv (q := (RX5, TX5, 7)) hK hP (ci := 5) (q0 := 0) rfl rfl) rfl hl.1 rfl (Nat.le_of_ble_eq_true rfl) dX5_mostBy_79 ⟨Nat.le_of_ble_eq_true rfl, Nat.le_of_ble_eq_true rfl⟩ (fun r_32 u_33 H locs hr_32 hP hD hS => ?_)
      obtain ⟨q_34, rfl⟩ : ∃ z, z = u_33 := ⟨_, rfl⟩
      have h9R := zRe (ws' := [(w0, .inr (5, [.ref wk, .ref wl, .ref wc, .ref wp, .int wn, .int wh, .int wg])), (wk, .inl (cI, 125, .inl q_34)), (wp, .inl (cP, 8, .inr (.inr (.inr (.inr fp)))))]) hP hD rfl
      clear hP hD
      obtain ⟨hP, hD⟩ := h9R
      refine lv_imul hx hb dX5_mostBy_82 ?_
      refine lv_topi (fun x_35 ex_35 => ?_)
      refine lv_iadd hx hb dX5_mostBy_83 ?_
      refine lv_topi (fun x_36 ex_36 => ?_)
      refine lv_istore (lv' := [(7, .int x_36), (6, .int x_4), (5, .int r_1), (0, .ref w0), (1, .ref u0), (2, .int 1), (3, .int d), (4, .int sec)]) hx hb dX5_mostBy_84 hl (by decide) rfl (fun ls hl => ?_)
      refine lv_iload hx hb dX5_mostBy_86 (lv_at hl 0 rfl) ?_
      exact W.iret (v := x_36) hx hb hr (fun t ht hW => ⟨⟨x_36, q_34, rfl, trivial, zRet ht hP hD [0, 1, 2] (by decide) rfl⟩, hS.F ht⟩) hS.2.2 dX5_mostBy_88
theorem hi_X5_most_5 : ∀ w ∈ u_ws RX5 TX5 7, w ∈ wsX5_most := fun w h => (gl_X5_most_X50 w h).1
set_option maxHeartbeats 4000000 in
set_option maxRecDepth 100000 in
theorem c_W_most_1 (l : Launch) (D : va_G) (cI cJ cZ cP cS : ClassId) (po : zPool) (w0 wk wl wc wp : Nat) (wn wh wg : Int32) (fp : Nat → Option Nat) (fk : Nat → Int32) (d sec : Int32) (hy0 : 0 ≤ wn.toInt) (hy1 : wn.toInt ≤ 8) (hy2 : 0 ≤ wh.toInt) (hy3 : wh.toInt ≤ 9) (hy4 : 0 ≤ wg.toInt) (hy5 : wg.toInt ≤ 60) (hwp : zWP po fp) (hy7 : 0 ≤ d.toInt) (hy8 : d.toInt ≤ 24) (hpz : Nat) : Met l yX5_most wsX5_most ({ frames := 3, cells := 0, slots := 0, locals := 71 }) (va_Pc [.ref w0, .int 1, .int d, .int sec] (zW D (zKT cI cJ cZ cP cS) po [(w0, .inr (5, [.ref wk, .ref wl, .ref wc, .ref wp, .int wn, .int wh, .int wg])), (wk, .inl (cI, 125, .inl fk)), (wp, .inl (cP, 8, .inr (.inr (.inr (.inr fp)))))] hpz)) (va_Qi (fun (r : Int32) (fk2 : (Nat → Int32)) => True) (zB D [(w0, .inr (5, [.ref wk, .ref wl, .ref wc, .ref wp, .int wn, .int wh, .int wg])), (wk, .inl (cI, 125, .inl fk)), (wp, .inl (cP, 8, .inr (.inr (.inr (.inr fp)))))] hpz (fun (fk2 : Nat → Int32) => [(w0, .inr (5, [.ref wk, .ref wl, .ref wc, .ref wp, .int wn, .int wh, .int wg])), (wk, .inl (cI, 125, .inl fk2)), (wp, .inl (cP, 8, .inr (.inr (.inr (.inr fp)))))])) (va_A [(w0, .inr (5, [.ref wk, .ref wl, .ref wc, .ref wp, .int wn, .int wh, .int wg])), (wk, .inl (cI, 125, .inl fk)), (wp, .inl (cP, 8, .inr (.inr (.inr (.inr fp)))))] hpz)) 0 0 (va_A [(w0, .inr (5, [.ref wk, .ref wl, .ref wc, .ref wp, .int wn, .int wh, .int wg])), (wk, .inl (cI, 125, .inl fk)), (wp, .inl (cP, 8, .inr (.inr (.inr (.inr fp)))))] hpz) := by
  refine Met.ofW (cc := cX5_most) (maxL := 9) (ret := (some .int)) (by decide) rfl ?_
  intro p e s m args below meth c s₁ B hml hv
  obtain ⟨rfl, hsz, hP, hK, hD0, hN, hZ⟩ := hv
  have hx := B.exec
  have hb := B.bytes
  have hr := B.returns
  have hts := atoms_spec (ws := wsX5_most) B.pre
  have hown : s.vm.findClass RX5 = some m.cls := findClass_of_methodNamed B.named
  have hlocks := B.notSynchronized
  subst hsz
  have hD := hD0.self (sz := s.heap.size)
  have hA := zA_of hD
  have hl := lv_entry ([.ref w0, .int 1, .int d, .int sec]) (n := 9) (Nat.le_of_ble_eq_true rfl)
  rw [lg_entry_eq]
  generalize (lg_sl ([.ref w0, .int 1, .int d, .int sec]) ++ List.replicate (9 - (lg_sl ([.ref w0, .int 1, .int d, .int sec])).length) Slot.unset).toArray = ls at hl ⊢
  replace hl : lv_has ls 9 [(0, .ref w0), (1, .int 1), (2, .int d), (3, .int sec)] := hl
  refine zw_begin hP hD (fun H locs hP1 hS => ?_)
  clear hP
  have hP := hP1
  clear hP1
  refine lv_iload_n hx hb dX5_most_0 rfl (lv_at hl 1 rfl) ?_
  refine lv_if_lt (tgt := 19) hx hb dX5_most_1 (by decide) (fun c_1 => ?_) (fun c_1 => ?_)
  · exact absurd c_1 (by decide)
  · refine lv_iload_n hx hb dX5_most_4 rfl (lv_at hl 1 rfl) ?_
    refine lv_iconst (v := 4) hx hb dX5_most_5 (by decide) ?_
    refine lv_icmp_gt (tgt := 19) hx hb dX5_most_6 (by decide) (fun c_2 => ?_) (fun c_2 => ?_)
    · exact absurd c_2 (by decide)
    · refine lv_iload_n hx hb dX5_most_9 rfl (lv_at hl 2 rfl) ?_
      refine lv_if_lt (tgt := 19) hx hb dX5_most_10 (by decide) (fun c_3 => ?_) (fun c_3 => ?_)
      · exfalso; have fc_3 : d.toInt < 0 := zf_lt c_3 rfl (by decide); omega
      · have fc_3 : 0 ≤ d.toInt := zf_nlt c_3 rfl (by decide)
        refine lv_iload_n hx hb dX5_most_13 rfl (lv_at hl 2 rfl) ?_
        refine lv_bipush (v := 24) hx hb dX5_most_14 (by decide) ?_
        refine lv_icmp_le (tgt := 21) hx hb dX5_most_16 (by decide) (fun c_4 => ?_) (fun c_4 => ?_)
        · have fc_4 : d.toInt ≤ 24 := zf_le c_4 rfl (by decide)
          refine lv_iload_n hx hb dX5_most_21 rfl (lv_at hl 2 rfl) ?_
          refine lv_if_eq (tgt := 29) hx hb dX5_most_22 (by decide) (fun c_5 => ?_) (fun c_5 => ?_)
          · have fc_5 : d.toInt = 0 := zf_eq c_5 rfl (by decide)
            refine lv_iload_n hx hb dX5_most_29 rfl (lv_at hl 2 rfl) ?_
            refine lv_if_ne (tgt := 41) hx hb dX5_most_30 (by decide) (fun c_6 => ?_) (fun c_6 => ?_)
            · exfalso; have fc_6 : d.toInt ≠ 0 := zf_ne c_6 rfl (by decide); omega
            · have fc_6 : d.toInt = 0 := zf_eq c_6 rfl (by decide)
              obtain ⟨t_7, zt_7, yt_7⟩ := hZ.1.1
              refine va_gets hx hb zt_7 hS hown (hts (.fieldLink RX5 79 "TheLiningsInIt$Ways" "POWERS" "[I") (List.mem_of_getElem? (i := 1) rfl)) (fun _ h9 => h9) dX5_most_33 ?_
              refine lv_iload_n hx hb dX5_most_36 rfl (lv_at hl 1 rfl) ?_
              refine va_ti hx hb yt_7 hS (zf_in (by decide) (by decide)) (v := .int 12) (by decide) dX5_most_37 ?_
              refine lv_goto (tgt := 42) hx hb dX5_most_38 (by decide) ?_
              exact W.iret (v := 12) hx hb hr (fun t ht hW => ⟨⟨12, fk, rfl, trivial, zRet ht hP hD [0, 1, 2] (by decide) rfl⟩, hS.F ht⟩) hS.2.2 dX5_most_42
          · have fc_5 : d.toInt ≠ 0 := zf_ne c_5 rfl (by decide)
            refine lv_iload_n hx hb dX5_most_25 rfl (lv_at hl 1 rfl) ?_
            refine lv_if_ne (tgt := 43) hx hb dX5_most_26 (by decide) (fun c_8 => ?_) (fun c_8 => ?_)
            · refine lv_iload_n hx hb dX5_most_43 rfl (lv_at hl 3 rfl) ?_
              refine lv_iload_n hx hb dX5_most_44 rfl (lv_at hl 1 rfl) ?_
              refine lv_aload_n hx hb dX5_most_45 rfl (lv_at hl 0 rfl) ?_
              refine va_get (D := D) (ci := 5) (v := .int wg) (C := RX5) (T := TX5) (N := 7) hx hb hts hi_X5_most_5 hown hK hP 0 rfl rfl 6 (by decide) (hts (.fieldLink RX5 34 "TheLiningsInIt$Ways" "longest" "I") (List.mem_of_getElem? (i := 2) rfl)) (fun _ h9 => h9) rfl dX5_most_46 ?_
              refine lv_imul hx hb dX5_most_49 ?_
              refine lv_topi (fun x_9 ex_9 => ?_)
              have qx_9 : x_9.toInt = 1 * wg.toInt := by rw [ex_9]; exact zf_mul (by decide) rfl (by omega) (by omega)
              refine lv_icmp_lt (tgt := 57) hx hb dX5_most_50 (by decide) (fun c_10 => ?_) (fun c_10 => ?_)
              · have fc_10 : sec.toInt < x_9.toInt := zf_lt c_10 rfl rfl
                refine lv_iconst (v := 0) hx hb dX5_most_57 (by decide) ?_
                refine lv_istore (lv' := [(4, .int 0), (0, .ref w0), (1, .int 1), (2, .int d), (3, .int sec)]) hx hb dX5_most_58 hl (by decide) rfl (fun ls hl => ?_)
                refine lv_iload_n hx hb dX5_most_60 rfl (lv_at hl 2 rfl) ?_
                refine lv_bipush (v := 25) hx hb dX5_most_61 (by decide) ?_
                refine lv_imul hx hb dX5_most_63 ?_
                refine lv_topi (fun y_11 ey_11 => ?_)
                obtain rfl : y_11 = 25 := ey_11.trans (by decide)
                refine lv_iload_n hx hb dX5_most_64 rfl (lv_at hl 3 rfl) ?_
                refine lv_iadd hx hb dX5_most_65 ?_
                refine lv_topi (fun x_12 ex_12 => ?_)
                have qx_12 : x_12.toInt = 25 + d.toInt := by rw [ex_12]; exact zf_add (by decide) rfl (by omega) (by omega)
                refine lv_istore (lv' := [(5, .int x_12), (4, .int 0), (0, .ref w0), (1, .int 1), (2, .int d), (3, .int sec)]) hx hb dX5_most_66 hl (by decide) rfl (fun ls hl => ?_)
                refine lv_iload hx hb dX5_most_68 (lv_at hl 1 rfl) ?_
                refine lv_if_eq (tgt := 92) hx hb dX5_most_70 (by decide) (fun c_13 => ?_) (fun c_13 => ?_)
                · refine lv_iconst (v := 0) hx hb dX5_most_92 (by decide) ?_
                  refine lv_istore (lv' := [(6, .int 0), (5, .int x_12), (4, .int 0), (0, .ref w0), (1, .int 1), (2, .int d), (3, .int sec)]) hx hb dX5_most_93 hl (by decide) rfl (fun ls hl => ?_)
                  refine lv_iconst (v := 0) hx hb dX5_most_95 (by decide) ?_
                  refine lv_istore (lv' := [(7, .int 0), (6, .int 0), (5, .int x_12), (4, .int 0), (0, .ref w0), (1, .int 1), (2, .int d), (3, .int sec)]) hx hb dX5_most_96 hl (by decide) rfl (fun ls hl => ?_)
                  obtain ⟨i_98, hi_98⟩ : ∃ i : Int32, i = 0 := ⟨_, rfl⟩
                  replace hl : lv_has ls 9 [(7, .int i_98), (6, .int 0), (5, .int x_12), (4, .int 0), (0, .ref w0), (1, .int 1), (2, .int d), (3, .int sec)] := by rw [hi_98]; exact lv_sub hl [0, 1, 2, 3, 4, 5, 6, 7] rfl
                  have h1i_98 : i_98.toInt = 0 := by rw [hi_98]; decide
                  obtain ⟨nfu, hni_98⟩ : ∃ nq9 : Nat, wn.toInt ≤ i_98.toInt + (nq9 : Int) := ⟨((wn.toInt : Int) - 0).toNat, by omega⟩
                  have hloi_98 : 0 ≤ i_98.toInt := by omega
                  obtain ⟨g_14, hg_14⟩ : ∃ g : Nat → Int32, g = fk := ⟨_, rfl⟩
                  replace hP : va_P D vwCl [(w0, .inr (5, [.ref wk, .ref wl, .ref wc, .ref wp, .int wn, .int wh, .int wg])), (wk, .inl (cI, 125, .inl g_14)), (wp, .inl (cP, 8, .inr (.inr (.inr (.inr fp)))))] H := by rw [hg_14]; exact hP
                  replace hD : va_D (va_A [(w0, .inr (5, [.ref wk, .ref wl, .ref wc, .ref wp, .int wn, .int wh, .int wg])), (wk, .inl (cI, 125, .inl fk)), (wp, .inl (cP, 8, .inr (.inr (.inr (.inr fp)))))] s.heap.size) [(w0, .inr (5, [.ref wk, .ref wl, .ref wc, .ref wp, .int wn, .int wh, .int wg])), (wk, .inl (cI, 125, .inl g_14)), (wp, .inl (cP, 8, .inr (.inr (.inr (.inr fp)))))] := by rw [hg_14]; exact hD
                  obtain ⟨v_15, hv_15⟩ : ∃ g : Int32, g = 0 := ⟨_, rfl⟩
                  replace hl : lv_has ls 9 [(7, .int i_98), (6, .int v_15), (5, .int x_12), (4, .int 0), (0, .ref w0), (1, .int 1), (2, .int d), (3, .int sec)] := by rw [hv_15]; exact hl
                  clear h1i_98 hi_98 hg_14 hv_15
                  skip
                  revert hni_98
                  revert hloi_98
                  revert hl
                  revert hS
                  revert hD
                  revert hP
                  revert ls
                  revert locs
                  revert H
                  revert g_14
                  revert v_15
                  revert i_98
                  induction nfu with
                  | zero =>
                    intro i_98 v_15 g_14 H locs ls hP hD hS hl hloi_98 hni_98
                    have hzi_98 : wn.toInt ≤ i_98.toInt := by omega
                    refine lv_iload hx hb dX5_most_98 (lv_at hl 0 rfl) ?_
                    refine lv_aload_n hx hb dX5_most_100 rfl (lv_at hl 4 rfl) ?_
                    refine va_get (D := D) (ci := 5) (v := .int wn) (C := RX5) (T := TX5) (N := 7) hx hb hts hi_X5_most_5 hown hK hP 0 rfl rfl 4 (by decide) (hts (.fieldLink RX5 27 "TheLiningsInIt$Ways" "count" "I") (List.mem_of_getElem? (i := 4) rfl)) (fun _ h9 => h9) rfl dX5_most_101 ?_
                    refine lv_icmp_ge (tgt := 144) hx hb dX5_most_104 (by decide) (fun c_16 => ?_) (fun c_16 => ?_)
                    · have fc_16 : wn.toInt ≤ i_98.toInt := zf_le c_16 rfl rfl
                      refine lv_iload hx hb dX5_most_144 (lv_at hl 3 rfl) ?_
                      refine lv_if_eq (tgt := 158) hx hb dX5_most_146 (by decide) (fun c_17 => ?_) (fun c_17 => ?_)
                      · refine lv_iload hx hb dX5_most_158 (lv_at hl 1 rfl) ?_
                        exact W.iret (v := v_15) hx hb hr (fun t ht hW => ⟨⟨v_15, g_14, rfl, trivial, zRet ht hP hD [0, 1, 2] (by decide) rfl⟩, hS.F ht⟩) hS.2.2 dX5_most_160
                      · exact absurd c_17 (by decide)
                    · exfalso; have fc_16 : i_98.toInt < wn.toInt := zf_nle c_16 rfl rfl; omega
                  | succ nfu ih =>
                    intro i_98 v_15 g_14 H locs ls hP hD hS hl hloi_98 hni_98
                    refine lv_iload hx hb dX5_most_98 (lv_at hl 0 rfl) ?_
                    refine lv_aload_n hx hb dX5_most_100 rfl (lv_at hl 4 rfl) ?_
                    refine va_get (D := D) (ci := 5) (v := .int wn) (C := RX5) (T := TX5) (N := 7) hx hb hts hi_X5_most_5 hown hK hP 0 rfl rfl 4 (by decide) (hts (.fieldLink RX5 27 "TheLiningsInIt$Ways" "count" "I") (List.mem_of_getElem? (i := 4) rfl)) (fun _ h9 => h9) rfl dX5_most_101 ?_
                    refine lv_icmp_ge (tgt := 144) hx hb dX5_most_104 (by decide) (fun c_18 => ?_) (fun c_18 => ?_)
                    · have fc_18 : wn.toInt ≤ i_98.toInt := zf_le c_18 rfl rfl
                      refine lv_iload hx hb dX5_most_144 (lv_at hl 3 rfl) ?_
                      refine lv_if_eq (tgt := 158) hx hb dX5_most_146 (by decide) (fun c_19 => ?_) (fun c_19 => ?_)
                      · refine lv_iload hx hb dX5_most_158 (lv_at hl 1 rfl) ?_
                        exact W.iret (v := v_15) hx hb hr (fun t ht hW => ⟨⟨v_15, g_14, rfl, trivial, zRet ht hP hD [0, 1, 2] (by decide) rfl⟩, hS.F ht⟩) hS.2.2 dX5_most_160
                      · exact absurd c_19 (by decide)
                    · have fc_18 : i_98.toInt < wn.toInt := zf_nle c_18 rfl rfl
                      refine lv_aload_n hx hb dX5_most_107 rfl (lv_at hl 4 rfl) ?_
                      refine lv_iload hx hb dX5_most_108 (lv_at hl 0 rfl) ?_
                      refine lv_iload_n hx hb dX5_most_110 rfl (lv_at hl 6 rfl) ?_
                      refine lv_iload_n hx hb dX5_most_111 rfl (lv_at hl 7 rfl) ?_
                      refine zc_Vq (As := [.int i_98, .int d, .int sec]) (rest := []) ⟨hx, hb, hml, hown, hts⟩ (c_W_mayBeAt l D cI cJ cZ cP cS po w0 wk wl wc wp (wn) (wh) (wg) fp (i_98) (d) (sec) hy0 hy1 hy2 hy3 hy4 hy5 hwp) (cwV 3 hts gX5_most_X5_mayBeAt rfl rfl rfl ⟨rfl, dh_X5_mayBeAt⟩ ⟨Nat.le_of_ble_eq_true rfl, Nat.le_of_ble_eq_true rfl⟩) hK hN (hZ.kept hS) hP (hP.sub [0, 2] rfl) (va_recv (q := (RX5, TX5, 7)) hK hP (ci := 5) (q0 := 0) rfl rfl) rfl hl.1 rfl (Nat.le_of_ble_eq_true rfl) dX5_most_112 ⟨Nat.le_of_ble_eq_true rfl, Nat.le_of_ble_eq_true rfl⟩ (fun r_20 hr_20 => ?_)
                      rcases hr_20 with ⟨rfl, g_21⟩ | ⟨rfl, g_22, g_23⟩ | ⟨rfl, g_24, g_25⟩ | ⟨rfl, g_26, g_27, g_28⟩ | ⟨rfl, g_29, g_30, g_31⟩ | ⟨⟨u_35, kiu_35, au_35, tu_35, rfl, huu_35⟩, g_32, g_33, g_34⟩
                      · exfalso; omega
                      · exfalso; omega
                      · refine lv_astoreN (lv' := [(8, .null), (7, .int i_98), (6, .int v_15), (5, .int x_12), (4, .int 0), (0, .ref w0), (1, .int 1), (2, .int d), (3, .int sec)]) hx hb dX5_most_115 hl (by decide) rfl (fun ls hl => ?_)
                        refine lv_aloadN hx hb dX5_most_117 (lv_at hl 0 rfl) ?_
                        refine lv_ifnullN (tgt := 138) hx hb dX5_most_119 (by decide) ?_
                        obtain ⟨x_36, ex_36⟩ : ∃ y : Int32, y = i_98 + 1 := ⟨_, rfl⟩
                        have qx_36 : x_36.toInt = i_98.toInt + 1 := dw_inc ex_36 fc_18
                        refine lv_iinc (v := x_36) (lv' := [(7, .int x_36), (8, .null), (6, .int v_15), (5, .int x_12), (4, .int 0), (0, .ref w0), (1, .int 1), (2, .int d), (3, .int sec)]) hx hb dX5_most_138 hl (k := 1) rfl ex_36.symm (by decide) rfl (fun ls hl => ?_)
                        refine lv_goto (tgt := 98) hx hb dX5_most_141 (by decide) ?_
                        exact ih x_36 v_15 (g_14) _ _ _ (hP.sub [0, 1, 2] rfl) (hD.sub [0, 1, 2] (by decide) rfl) hS (lv_sub hl [0, 2, 3, 4, 5, 6, 7, 8] rfl) (dw_lo hloi_98 qx_36) (dw_hn hni_98 qx_36)
                      · exfalso; omega
                      · refine lv_astoreN (lv' := [(8, .null), (7, .int i_98), (6, .int v_15), (5, .int x_12), (4, .int 0), (0, .ref w0), (1, .int 1), (2, .int d), (3, .int sec)]) hx hb dX5_most_115 hl (by decide) rfl (fun ls hl => ?_)
                        refine lv_aloadN hx hb dX5_most_117 (lv_at hl 0 rfl) ?_
                        refine lv_ifnullN (tgt := 138) hx hb dX5_most_119 (by decide) ?_
                        obtain ⟨x_37, ex_37⟩ : ∃ y : Int32, y = i_98 + 1 := ⟨_, rfl⟩
                        have qx_37 : x_37.toInt = i_98.toInt + 1 := dw_inc ex_37 fc_18
                        refine lv_iinc (v := x_37) (lv' := [(7, .int x_37), (8, .null), (6, .int v_15), (5, .int x_12), (4, .int 0), (0, .ref w0), (1, .int 1), (2, .int d), (3, .int sec)]) hx hb dX5_most_138 hl (k := 1) rfl ex_37.symm (by decide) rfl (fun ls hl => ?_)
                        refine lv_goto (tgt := 98) hx hb dX5_most_141 (by decide) ?_
                        exact ih x_37 v_15 (g_14) _ _ _ (hP.sub [0, 1, 2] rfl) (hD.sub [0, 1, 2] (by decide) rfl) hS (lv_sub hl [0, 2, 3, 4, 5, 6, 7, 8] rfl) (dw_lo hloi_98 qx_37) (dw_hn hni_98 qx_37)
                      · refine W.eq (g2 := F0 m 115 ls (.ref u_35 :: [])) rfl ?_
                        obtain ⟨hku_35, hau_35, htu_35⟩ := zPu_pr (hZ.kept hS) huu_35
                        refine lv_astore (lv' := [(8, .ref u_35), (7, .int i_98), (6, .int v_15), (5, .int x_12), (4, .int 0), (0, .ref w0), (1, .int 1), (2, .int d), (3, .int sec)]) hx hb dX5_most_115 hl (by decide) rfl (fun ls hl => ?_)
                        refine lv_aload hx hb dX5_most_117 (lv_at hl 0 rfl) ?_
                        refine lv_ifnull hx hb dX5_most_119 ?_
                        refine lv_iload hx hb dX5_most_122 (lv_at hl 2 rfl) ?_
                        refine lv_aload_n hx hb dX5_most_124 rfl (lv_at hl 5 rfl) ?_
                        refine lv_aload hx hb dX5_most_125 (lv_at hl 0 rfl) ?_
                        refine lv_iload_n hx hb dX5_most_127 rfl (lv_at hl 6 rfl) ?_
                        refine lv_iload_n hx hb dX5_most_128 rfl (lv_at hl 7 rfl) ?_
                        refine lv_iload_n hx hb dX5_most_129 rfl (lv_at hl 8 rfl) ?_
                        skip
                        refine zw_V (As := [.ref u_35, .int 1, .int d, .int sec]) (rest := [.int v_15]) (wr := []) ⟨hx, hb, hml, hown, hts⟩ (c_W_mostBy_1 l D cI cJ cZ cP cS po w0 wk wl wc wp (wn) (wh) (wg) fp g_14 (d) (sec) u_35 (kiu_35) (au_35) (tu_35) huu_35 ⟨by omega, by omega, by omega, by omega⟩ hy0 hy1 hy2 hy3 hy4 hy5 hwp hy7 hy8 H.size) (cwV 4 hts gX5_most_X5_mostBy rfl rfl rfl ⟨rfl, dh_X5_mostBy⟩ ⟨Nat.le_of_ble_eq_true rfl, Nat.le_of_ble_eq_true rfl⟩) hK hN (hZ.kept hS) hP hD hS hA [0, 1, 2] [] rfl rfl (by decide) (by decide) (by decide) (va_recv (q := (RX5, TX5, 7)) hK hP (ci := 5) (q0 := 0) rfl rfl) rfl hl.1 rfl (Nat.le_of_ble_eq_true rfl) dX5_most_130 ⟨Nat.le_of_ble_eq_true rfl, Nat.le_of_ble_eq_true rfl⟩ (fun r_38 u_39 H locs hr_38 hP hD hS => ?_)
                        obtain ⟨q_40, rfl⟩ : ∃ z, z = u_39 := ⟨_, rfl⟩
                        have h9R := zRe (ws' := [(w0, .inr (5, [.ref wk, .ref wl, .ref wc, .ref wp, .int wn, .int wh, .int wg])), (wk, .inl (cI, 125, .inl q_40)), (wp, .inl (cP, 8, .inr (.inr (.inr (.inr fp)))))]) hP hD rfl
                        clear hP hD
                        obtain ⟨hP, hD⟩ := h9R
                        refine va_mmax hx hb (hml.trans hl.1.symm) hown (hts (.methodLink RX5 52 Lib.Math.max.name) (List.mem_of_getElem? (i := 5) rfl)) (hts _ (List.mem_of_getElem? (i := 6) rfl)) (hts _ (List.mem_of_getElem? (i := 7) rfl)) (hts _ (List.mem_of_getElem? (i := 8) rfl)) (Nat.le_of_ble_eq_true rfl) (Nat.le_of_ble_eq_true rfl) (Nat.le_of_ble_eq_true rfl) (Nat.le_of_ble_eq_true rfl) dX5_most_133 ?_
                        refine lv_topi (fun x_41 ex_41 => ?_)
                        have qx_41 := zf_max ex_41 (x1 := v_15.toInt) (y1 := r_38.toInt) rfl rfl
                        refine lv_istore (lv' := [(6, .int x_41), (8, .ref u_35), (7, .int i_98), (5, .int x_12), (4, .int 0), (0, .ref w0), (1, .int 1), (2, .int d), (3, .int sec)]) hx hb dX5_most_136 hl (by decide) rfl (fun ls hl => ?_)
                        obtain ⟨x_42, ex_42⟩ : ∃ y : Int32, y = i_98 + 1 := ⟨_, rfl⟩
                        have qx_42 : x_42.toInt = i_98.toInt + 1 := dw_inc ex_42 fc_18
                        refine lv_iinc (v := x_42) (lv' := [(7, .int x_42), (6, .int x_41), (8, .ref u_35), (5, .int x_12), (4, .int 0), (0, .ref w0), (1, .int 1), (2, .int d), (3, .int sec)]) hx hb dX5_most_138 hl (k := 2) rfl ex_42.symm (by decide) rfl (fun ls hl => ?_)
                        refine lv_goto (tgt := 98) hx hb dX5_most_141 (by decide) ?_
                        exact ih x_42 x_41 (q_40) _ _ _ (hP.sub [0, 1, 2] rfl) (hD.sub [0, 1, 2] (by decide) rfl) hS (lv_sub hl [0, 1, 3, 4, 5, 6, 7, 8] rfl) (dw_lo hloi_98 qx_42) (dw_hn hni_98 qx_42)
                · exact absurd c_13 (by decide)
              · have fc_10 : x_9.toInt ≤ sec.toInt := zf_nlt c_10 rfl rfl
                refine lv_iconst (v := 1) hx hb dX5_most_53 (by decide) ?_
                refine lv_goto (tgt := 58) hx hb dX5_most_54 (by decide) ?_
                refine lv_istore (lv' := [(4, .int 1), (0, .ref w0), (1, .int 1), (2, .int d), (3, .int sec)]) hx hb dX5_most_58 hl (by decide) rfl (fun ls hl => ?_)
                refine lv_iload_n hx hb dX5_most_60 rfl (lv_at hl 2 rfl) ?_
                refine lv_bipush (v := 25) hx hb dX5_most_61 (by decide) ?_
                refine lv_imul hx hb dX5_most_63 ?_
                refine lv_topi (fun y_43 ey_43 => ?_)
                obtain rfl : y_43 = 25 := ey_43.trans (by decide)
                refine lv_iload_n hx hb dX5_most_64 rfl (lv_at hl 3 rfl) ?_
                refine lv_iadd hx hb dX5_most_65 ?_
                refine lv_topi (fun x_44 ex_44 => ?_)
                have qx_44 : x_44.toInt = 25 + d.toInt := by rw [ex_44]; exact zf_add (by decide) rfl (by omega) (by omega)
                refine lv_istore (lv' := [(5, .int x_44), (4, .int 1), (0, .ref w0), (1, .int 1), (2, .int d), (3, .int sec)]) hx hb dX5_most_66 hl (by decide) rfl (fun ls hl => ?_)
                refine lv_iload hx hb dX5_most_68 (lv_at hl 1 rfl) ?_
                refine lv_if_eq (tgt := 92) hx hb dX5_most_70 (by decide) (fun c_45 => ?_) (fun c_45 => ?_)
                · exact absurd c_45 (by decide)
                · refine lv_aload_n hx hb dX5_most_73 rfl (lv_at hl 2 rfl) ?_
                  refine va_get (D := D) (ci := 5) (v := .ref wk) (C := RX5) (T := TX5) (N := 7) hx hb hts hi_X5_most_5 hown hK hP 0 rfl rfl 0 (by decide) (hts (.fieldLink RX5 9 "TheLiningsInIt$Ways" "knownMost" "[I") (List.mem_of_getElem? (i := 3) rfl)) (fun _ h9 => h9) rfl dX5_most_74 ?_
                  refine lv_iload hx hb dX5_most_77 (lv_at hl 0 rfl) ?_
                  refine va_iald hx hb hK hP 1 0 rfl rfl (zf_in (by omega) (by omega)) dX5_most_79 ?_
                  refine lv_topi (fun x_46 ex_46 => ?_)
                  refine lv_iconst (v := (-1)) hx hb dX5_most_80 (by decide) ?_
                  refine lv_icmp_eq (tgt := 92) hx hb dX5_most_81 (by decide) (fun c_47 => ?_) (fun c_47 => ?_)
                  · have fc_47 : x_46.toInt = (-1) := zf_eq c_47 rfl (by decide)
                    refine lv_iconst (v := 0) hx hb dX5_most_92 (by decide) ?_
                    refine lv_istore (lv' := [(6, .int 0), (5, .int x_44), (4, .int 1), (0, .ref w0), (1, .int 1), (2, .int d), (3, .int sec)]) hx hb dX5_most_93 hl (by decide) rfl (fun ls hl => ?_)
                    refine lv_iconst (v := 0) hx hb dX5_most_95 (by decide) ?_
                    refine lv_istore (lv' := [(7, .int 0), (6, .int 0), (5, .int x_44), (4, .int 1), (0, .ref w0), (1, .int 1), (2, .int d), (3, .int sec)]) hx hb dX5_most_96 hl (by decide) rfl (fun ls hl => ?_)
                    obtain ⟨i_98, hi_98⟩ : ∃ i : Int32, i = 0 := ⟨_, rfl⟩
                    replace hl : lv_has ls 9 [(7, .int i_98), (6, .int 0), (5, .int x_44), (4, .int 1), (0, .ref w0), (1, .int 1), (2, .int d), (3, .int sec)] := by rw [hi_98]; exact lv_sub hl [0, 1, 2, 3, 4, 5, 6, 7] rfl
                    have h1i_98 : i_98.toInt = 0 := by rw [hi_98]; decide
                    obtain ⟨nfu, hni_98⟩ : ∃ nq9 : Nat, wn.toInt ≤ i_98.toInt + (nq9 : Int) := ⟨((wn.toInt : Int) - 0).toNat, by omega⟩
                    have hloi_98 : 0 ≤ i_98.toInt := by omega
                    obtain ⟨g_48, hg_48⟩ : ∃ g : Nat → Int32, g = fk := ⟨_, rfl⟩
                    replace hP : va_P D vwCl [(w0, .inr (5, [.ref wk, .ref wl, .ref wc, .ref wp, .int wn, .int wh, .int wg])), (wk, .inl (cI, 125, .inl g_48)), (wp, .inl (cP, 8, .inr (.inr (.inr (.inr fp)))))] H := by rw [hg_48]; exact hP
                    replace hD : va_D (va_A [(w0, .inr (5, [.ref wk, .ref wl, .ref wc, .ref wp, .int wn, .int wh, .int wg])), (wk, .inl (cI, 125, .inl fk)), (wp, .inl (cP, 8, .inr (.inr (.inr (.inr fp)))))] s.heap.size) [(w0, .inr (5, [.ref wk, .ref wl, .ref wc, .ref wp, .int wn, .int wh, .int wg])), (wk, .inl (cI, 125, .inl g_48)), (wp, .inl (cP, 8, .inr (.inr (.inr (.inr fp)))))] := by rw [hg_48]; exact hD
                    obtain ⟨v_49, hv_49⟩ : ∃ g : Int32, g = 0 := ⟨_, rfl⟩
                    replace hl : lv_has ls 9 [(7, .int i_98), (6, .int v_49), (5, .int x_44), (4, .int 1), (0, .ref w0), (1, .int 1), (2, .int d), (3, .int sec)] := by rw [hv_49]; exact hl
                    clear h1i_98 hi_98 hg_48 hv_49
                    skip
                    revert hni_98
                    revert hloi_98
                    revert hl
                    revert hS
                    revert hD
                    revert hP
                    revert ls
                    revert locs
                    revert H
                    revert g_48
                    revert v_49
                    revert i_98
                    induction nfu with
                    | zero =>
                      intro i_98 v_49 g_48 H locs ls hP hD hS hl hloi_98 hni_98
                      have hzi_98 : wn.toInt ≤ i_98.toInt := by omega
                      refine lv_iload hx hb dX5_most_98 (lv_at hl 0 rfl) ?_
                      refine lv_aload_n hx hb dX5_most_100 rfl (lv_at hl 4 rfl) ?_
                      refine va_get (D := D) (ci := 5) (v := .int wn) (C := RX5) (T := TX5) (N := 7) hx hb hts hi_X5_most_5 hown hK hP 0 rfl rfl 4 (by decide) (hts (.fieldLink RX5 27 "TheLiningsInIt$Ways" "count" "I") (List.mem_of_getElem? (i := 4) rfl)) (fun _ h9 => h9) rfl dX5_most_101 ?_
                      refine lv_icmp_ge (tgt := 144) hx hb dX5_most_104 (by decide) (fun c_50 => ?_) (fun c_50 => ?_)
                      · have fc_50 : wn.toInt ≤ i_98.toInt := zf_le c_50 rfl rfl
                        refine lv_iload hx hb dX5_most_144 (lv_at hl 3 rfl) ?_
                        refine lv_if_eq (tgt := 158) hx hb dX5_most_146 (by decide) (fun c_51 => ?_) (fun c_51 => ?_)
                        · exact absurd c_51 (by decide)
                        · refine lv_aload_n hx hb dX5_most_149 rfl (lv_at hl 4 rfl) ?_
                          refine va_get (D := D) (ci := 5) (v := .ref wk) (C := RX5) (T := TX5) (N := 7) hx hb hts hi_X5_most_5 hown hK hP 0 rfl rfl 0 (by decide) (hts (.fieldLink RX5 9 "TheLiningsInIt$Ways" "knownMost" "[I") (List.mem_of_getElem? (i := 3) rfl)) (fun _ h9 => h9) rfl dX5_most_150 ?_
                          refine lv_iload hx hb dX5_most_153 (lv_at hl 2 rfl) ?_
                          refine lv_iload hx hb dX5_most_155 (lv_at hl 1 rfl) ?_
                          refine va_iast hx hb hK hP hD hS 1 0 rfl rfl (zf_in (by omega) (by omega)) dX5_most_157 (fun H locs hP hD hS => ?_)
                          obtain ⟨g_52, hg_52⟩ : ∃ g : Nat → Int32, g = upd g_48 x_44.toNatClampNeg v_49 := ⟨_, rfl⟩
                          rw [← hg_52] at hP hD
                          clear hg_52
                          have h9R := zRe (ws' := [(w0, .inr (5, [.ref wk, .ref wl, .ref wc, .ref wp, .int wn, .int wh, .int wg])), (wk, .inl (cI, 125, .inl g_52)), (wp, .inl (cP, 8, .inr (.inr (.inr (.inr fp)))))]) hP hD rfl
                          clear hP hD
                          obtain ⟨hP, hD⟩ := h9R
                          refine lv_iload hx hb dX5_most_158 (lv_at hl 1 rfl) ?_
                          exact W.iret (v := v_49) hx hb hr (fun t ht hW => ⟨⟨v_49, g_52, rfl, trivial, zRet ht hP hD [0, 1, 2] (by decide) rfl⟩, hS.F ht⟩) hS.2.2 dX5_most_160
                      · exfalso; have fc_50 : i_98.toInt < wn.toInt := zf_nle c_50 rfl rfl; omega
                    | succ nfu ih =>
                      intro i_98 v_49 g_48 H locs ls hP hD hS hl hloi_98 hni_98
                      refine lv_iload hx hb dX5_most_98 (lv_at hl 0 rfl) ?_
                      refine lv_aload_n hx hb dX5_most_100 rfl (lv_at hl 4 rfl) ?_
                      refine va_get (D := D) (ci := 5) (v := .int wn) (C := RX5) (T := TX5) (N := 7) hx hb hts hi_X5_most_5 hown hK hP 0 rfl rfl 4 (by decide) (hts (.fieldLink RX5 27 "TheLiningsInIt$Ways" "count" "I") (List.mem_of_getElem? (i := 4) rfl)) (fun _ h9 => h9) rfl dX5_most_101 ?_
                      refine lv_icmp_ge (tgt := 144) hx hb dX5_most_104 (by decide) (fun c_53 => ?_) (fun c_53 => ?_)
                      · have fc_53 : wn.toInt ≤ i_98.toInt := zf_le c_53 rfl rfl
                        refine lv_iload hx hb dX5_most_144 (lv_at hl 3 rfl) ?_
                        refine lv_if_eq (tgt := 158) hx hb dX5_most_146 (by decide) (fun c_54 => ?_) (fun c_54 => ?_)
                        · exact absurd c_54 (by decide)
                        · refine lv_aload_n hx hb dX5_most_149 rfl (lv_at hl 4 rfl) ?_
                          refine va_get (D := D) (ci := 5) (v := .ref wk) (C := RX5) (T := TX5) (N := 7) hx hb hts hi_X5_most_5 hown hK hP 0 rfl rfl 0 (by decide) (hts (.fieldLink RX5 9 "TheLiningsInIt$Ways" "knownMost" "[I") (List.mem_of_getElem? (i := 3) rfl)) (fun _ h9 => h9) rfl dX5_most_150 ?_
                          refine lv_iload hx hb dX5_most_153 (lv_at hl 2 rfl) ?_
                          refine lv_iload hx hb dX5_most_155 (lv_at hl 1 rfl) ?_
                          refine va_iast hx hb hK hP hD hS 1 0 rfl rfl (zf_in (by omega) (by omega)) dX5_most_157 (fun H locs hP hD hS => ?_)
                          obtain ⟨g_55, hg_55⟩ : ∃ g : Nat → Int32, g = upd g_48 x_44.toNatClampNeg v_49 := ⟨_, rfl⟩
                          rw [← hg_55] at hP hD
                          clear hg_55
                          have h9R := zRe (ws' := [(w0, .inr (5, [.ref wk, .ref wl, .ref wc, .ref wp, .int wn, .int wh, .int wg])), (wk, .inl (cI, 125, .inl g_55)), (wp, .inl (cP, 8, .inr (.inr (.inr (.inr fp)))))]) hP hD rfl
                          clear hP hD
                          obtain ⟨hP, hD⟩ := h9R
                          refine lv_iload hx hb dX5_most_158 (lv_at hl 1 rfl) ?_
                          exact W.iret (v := v_49) hx hb hr (fun t ht hW => ⟨⟨v_49, g_55, rfl, trivial, zRet ht hP hD [0, 1, 2] (by decide) rfl⟩, hS.F ht⟩) hS.2.2 dX5_most_160
                      · have fc_53 : i_98.toInt < wn.toInt := zf_nle c_53 rfl rfl
                        refine lv_aload_n hx hb dX5_most_107 rfl (lv_at hl 4 rfl) ?_
                        refine lv_iload hx hb dX5_most_108 (lv_at hl 0 rfl) ?_
                        refine lv_iload_n hx hb dX5_most_110 rfl (lv_at hl 6 rfl) ?_
                        refine lv_iload_n hx hb dX5_most_111 rfl (lv_at hl 7 rfl) ?_
                        refine zc_Vq (As := [.int i_98, .int d, .int sec]) (rest := []) ⟨hx, hb, hml, hown, hts⟩ (c_W_mayBeAt l D cI cJ cZ cP cS po w0 wk wl wc wp (wn) (wh) (wg) fp (i_98) (d) (sec) hy0 hy1 hy2 hy3 hy4 hy5 hwp) (cwV 3 hts gX5_most_X5_mayBeAt rfl rfl rfl ⟨rfl, dh_X5_mayBeAt⟩ ⟨Nat.le_of_ble_eq_true rfl, Nat.le_of_ble_eq_true rfl⟩) hK hN (hZ.kept hS) hP (hP.sub [0, 2] rfl) (va_recv (q := (RX5, TX5, 7)) hK hP (ci := 5) (q0 := 0) rfl rfl) rfl hl.1 rfl (Nat.le_of_ble_eq_true rfl) dX5_most_112 ⟨Nat.le_of_ble_eq_true rfl, Nat.le_of_ble_eq_true rfl⟩ (fun r_56 hr_56 => ?_)
                        rcases hr_56 with ⟨rfl, g_57⟩ | ⟨rfl, g_58, g_59⟩ | ⟨rfl, g_60, g_61⟩ | ⟨rfl, g_62, g_63, g_64⟩ | ⟨rfl, g_65, g_66, g_67⟩ | ⟨⟨u_71, kiu_71, au_71, tu_71, rfl, huu_71⟩, g_68, g_69, g_70⟩
                        · exfalso; omega
                        · exfalso; omega
                        · refine lv_astoreN (lv' := [(8, .null), (7, .int i_98), (6, .int v_49), (5, .int x_44), (4, .int 1), (0, .ref w0), (1, .int 1), (2, .int d), (3, .int sec)]) hx hb dX5_most_115 hl (by decide) rfl (fun ls hl => ?_)
                          refine lv_aloadN hx hb dX5_most_117 (lv_at hl 0 rfl) ?_
                          refine lv_ifnullN (tgt := 138) hx hb dX5_most_119 (by decide) ?_
                          obtain ⟨x_72, ex_72⟩ : ∃ y : Int32, y = i_98 + 1 := ⟨_, rfl⟩
                          have qx_72 : x_72.toInt = i_98.toInt + 1 := dw_inc ex_72 fc_53
                          refine lv_iinc (v := x_72) (lv' := [(7, .int x_72), (8, .null), (6, .int v_49), (5, .int x_44), (4, .int 1), (0, .ref w0), (1, .int 1), (2, .int d), (3, .int sec)]) hx hb dX5_most_138 hl (k := 1) rfl ex_72.symm (by decide) rfl (fun ls hl => ?_)
                          refine lv_goto (tgt := 98) hx hb dX5_most_141 (by decide) ?_
                          exact ih x_72 v_49 (g_48) _ _ _ (hP.sub [0, 1, 2] rfl) (hD.sub [0, 1, 2] (by decide) rfl) hS (lv_sub hl [0, 2, 3, 4, 5, 6, 7, 8] rfl) (dw_lo hloi_98 qx_72) (dw_hn hni_98 qx_72)
                        · exfalso; omega
                        · refine lv_astoreN (lv' := [(8, .null), (7, .int i_98), (6, .int v_49), (5, .int x_44), (4, .int 1), (0, .ref w0), (1, .int 1), (2, .int d), (3, .int sec)]) hx hb dX5_most_115 hl (by decide) rfl (fun ls hl => ?_)
                          refine lv_aloadN hx hb dX5_most_117 (lv_at hl 0 rfl) ?_
                          refine lv_ifnullN (tgt := 138) hx hb dX5_most_119 (by decide) ?_
                          obtain ⟨x_73, ex_73⟩ : ∃ y : Int32, y = i_98 + 1 := ⟨_, rfl⟩
                          have qx_73 : x_73.toInt = i_98.toInt + 1 := dw_inc ex_73 fc_53
                          refine lv_iinc (v := x_73) (lv' := [(7, .int x_73), (8, .null), (6, .int v_49), (5, .int x_44), (4, .int 1), (0, .ref w0), (1, .int 1), (2, .int d), (3, .int sec)]) hx hb dX5_most_138 hl (k := 1) rfl ex_73.symm (by decide) rfl (fun ls hl => ?_)
                          refine lv_goto (tgt := 98) hx hb dX5_most_141 (by decide) ?_
                          exact ih x_73 v_49 (g_48) _ _ _ (hP.sub [0, 1, 2] rfl) (hD.sub [0, 1, 2] (by decide) rfl) hS (lv_sub hl [0, 2, 3, 4, 5, 6, 7, 8] rfl) (dw_lo hloi_98 qx_73) (dw_hn hni_98 qx_73)
                        · refine W.eq (g2 := F0 m 115 ls (.ref u_71 :: [])) rfl ?_
                          obtain ⟨hku_71, hau_71, htu_71⟩ := zPu_pr (hZ.kept hS) huu_71
                          refine lv_astore (lv' := [(8, .ref u_71), (7, .int i_98), (6, .int v_49), (5, .int x_44), (4, .int 1), (0, .ref w0), (1, .int 1), (2, .int d), (3, .int sec)]) hx hb dX5_most_115 hl (by decide) rfl (fun ls hl => ?_)
                          refine lv_aload hx hb dX5_most_117 (lv_at hl 0 rfl) ?_
                          refine lv_ifnull hx hb dX5_most_119 ?_
                          refine lv_iload hx hb dX5_most_122 (lv_at hl 2 rfl) ?_
                          refine lv_aload_n hx hb dX5_most_124 rfl (lv_at hl 5 rfl) ?_
                          refine lv_aload hx hb dX5_most_125 (lv_at hl 0 rfl) ?_
                          refine lv_iload_n hx hb dX5_most_127 rfl (lv_at hl 6 rfl) ?_
                          refine lv_iload_n hx hb dX5_most_128 rfl (lv_at hl 7 rfl) ?_
                          refine lv_iload_n hx hb dX5_most_129 rfl (lv_at hl 8 rfl) ?_
                          skip
                          refine zw_V (As := [.ref u_71, .int 1, .int d, .int sec]) (rest := [.int v_49]) (wr := []) ⟨hx, hb, hml, hown, hts⟩ (c_W_mostBy_1 l D cI cJ cZ cP cS po w0 wk wl wc wp (wn) (wh) (wg) fp g_48 (d) (sec) u_71 (kiu_71) (au_71) (tu_71) huu_71 ⟨by omega, by omega, by omega, by omega⟩ hy0 hy1 hy2 hy3 hy4 hy5 hwp hy7 hy8 H.size) (cwV 4 hts gX5_most_X5_mostBy rfl rfl rfl ⟨rfl, dh_X5_mostBy⟩ ⟨Nat.le_of_ble_eq_true rfl, Nat.le_of_ble_eq_true rfl⟩) hK hN (hZ.kept hS) hP hD hS hA [0, 1, 2] [] rfl rfl (by decide) (by decide) (by decide) (va_recv (q := (RX5, TX5, 7)) hK hP (ci := 5) (q0 := 0) rfl rfl) rfl hl.1 rfl (Nat.le_of_ble_eq_true rfl) dX5_most_130 ⟨Nat.le_of_ble_eq_true rfl, Nat.le_of_ble_eq_true rfl⟩ (fun r_74 u_75 H locs hr_74 hP hD hS => ?_)
                          obtain ⟨q_76, rfl⟩ : ∃ z, z = u_75 := ⟨_, rfl⟩
                          have h9R := zRe (ws' := [(w0, .inr (5, [.ref wk, .ref wl, .ref wc, .ref wp, .int wn, .int wh, .int wg])), (wk, .inl (cI, 125, .inl q_76)), (wp, .inl (cP, 8, .inr (.inr (.inr (.inr fp)))))]) hP hD rfl
                          clear hP hD
                          obtain ⟨hP, hD⟩ := h9R
                          refine va_mmax hx hb (hml.trans hl.1.symm) hown (hts (.methodLink RX5 52 Lib.Math.max.name) (List.mem_of_getElem? (i := 5) rfl)) (hts _ (List.mem_of_getElem? (i := 6) rfl)) (hts _ (List.mem_of_getElem? (i := 7) rfl)) (hts _ (List.mem_of_getElem? (i := 8) rfl)) (Nat.le_of_ble_eq_true rfl) (Nat.le_of_ble_eq_true rfl) (Nat.le_of_ble_eq_true rfl) (Nat.le_of_ble_eq_true rfl) dX5_most_133 ?_
                          refine lv_topi (fun x_77 ex_77 => ?_)
                          have qx_77 := zf_max ex_77 (x1 := v_49.toInt) (y1 := r_74.toInt) rfl rfl
                          refine lv_istore (lv' := [(6, .int x_77), (8, .ref u_71), (7, .int i_98), (5, .int x_44), (4, .int 1), (0, .ref w0), (1, .int 1), (2, .int d), (3, .int sec)]) hx hb dX5_most_136 hl (by decide) rfl (fun ls hl => ?_)
                          obtain ⟨x_78, ex_78⟩ : ∃ y : Int32, y = i_98 + 1 := ⟨_, rfl⟩
                          have qx_78 : x_78.toInt = i_98.toInt + 1 := dw_inc ex_78 fc_53
                          refine lv_iinc (v := x_78) (lv' := [(7, .int x_78), (6, .int x_77), (8, .ref u_71), (5, .int x_44), (4, .int 1), (0, .ref w0), (1, .int 1), (2, .int d), (3, .int sec)]) hx hb dX5_most_138 hl (k := 2) rfl ex_78.symm (by decide) rfl (fun ls hl => ?_)
                          refine lv_goto (tgt := 98) hx hb dX5_most_141 (by decide) ?_
                          exact ih x_78 x_77 (q_76) _ _ _ (hP.sub [0, 1, 2] rfl) (hD.sub [0, 1, 2] (by decide) rfl) hS (lv_sub hl [0, 1, 3, 4, 5, 6, 7, 8] rfl) (dw_lo hloi_98 qx_78) (dw_hn hni_98 qx_78)
                  · have fc_47 : x_46.toInt ≠ (-1) := zf_ne c_47 rfl (by decide)
                    refine lv_aload_n hx hb dX5_most_84 rfl (lv_at hl 2 rfl) ?_
                    refine va_get (D := D) (ci := 5) (v := .ref wk) (C := RX5) (T := TX5) (N := 7) hx hb hts hi_X5_most_5 hown hK hP 0 rfl rfl 0 (by decide) (hts (.fieldLink RX5 9 "TheLiningsInIt$Ways" "knownMost" "[I") (List.mem_of_getElem? (i := 3) rfl)) (fun _ h9 => h9) rfl dX5_most_85 ?_
                    refine lv_iload hx hb dX5_most_88 (lv_at hl 0 rfl) ?_
                    refine va_iald hx hb hK hP 1 0 rfl rfl (zf_in (by omega) (by omega)) dX5_most_90 ?_
                    refine lv_topi (fun x_79 ex_79 => ?_)
                    exact W.iret (v := x_79) hx hb hr (fun t ht hW => ⟨⟨x_79, fk, rfl, trivial, zRet ht hP hD [0, 1, 2] (by decide) rfl⟩, hS.F ht⟩) hS.2.2 dX5_most_91
            · exact absurd c_8 (by decide)
        · exfalso; have fc_4 : 24 < d.toInt := zf_nle c_4 rfl (by decide); omega
set_option maxHeartbeats 4000000 in
set_option maxRecDepth 100000 in
theorem c_W_mostBy_2 (l : Launch) (D : va_G) (cI cJ cZ cP cS : ClassId) (po : zPool) (w0 wk wl wc wp : Nat) (wn wh wg : Int32) (fp : Nat → Option Nat) (fk : Nat → Int32) (d sec : Int32) (u0 : Nat) (ki a_ ta : Int32) (hu_u0 : zPu po u0 ki a_ ta) (hr_u0 : zPr ki a_ ta) (hy2 : 0 ≤ wn.toInt) (hy3 : wn.toInt ≤ 8) (hy4 : 0 ≤ wh.toInt) (hy5 : wh.toInt ≤ 9) (hy6 : 0 ≤ wg.toInt) (hy7 : wg.toInt ≤ 60) (hwp : zWP po fp) (hy9 : 0 ≤ d.toInt) (hy10 : d.toInt ≤ 24) (hpz : Nat) : Met l yX5_mostBy wsX5_mostBy ({ frames := 4, cells := 0, slots := 0, locals := 99 }) (va_Pc [.ref w0, .ref u0, .int 2, .int d, .int sec] (zW D (zKT cI cJ cZ cP cS) po [(w0, .inr (5, [.ref wk, .ref wl, .ref wc, .ref wp, .int wn, .int wh, .int wg])), (wk, .inl (cI, 125, .inl fk)), (wp, .inl (cP, 8, .inr (.inr (.inr (.inr fp)))))] hpz)) (va_Qi (fun (r : Int32) (fk2 : (Nat → Int32)) => True) (zB D [(w0, .inr (5, [.ref wk, .ref wl, .ref wc, .ref wp, .int wn, .int wh, .int wg])), (wk, .inl (cI, 125, .inl fk)), (wp, .inl (cP, 8, .inr (.inr (.inr (.inr fp)))))] hpz (fun (fk2 : Nat → Int32) => [(w0, .inr (5, [.ref wk, .ref wl, .ref wc, .ref wp, .int wn, .int wh, .int wg])), (wk, .inl (cI, 125, .inl fk2)), (wp, .inl (cP, 8, .inr (.inr (.inr (.inr fp)))))])) (va_A [(w0, .inr (5, [.ref wk, .ref wl, .ref wc, .ref wp, .int wn, .int wh, .int wg])), (wk, .inl (cI, 125, .inl fk)), (wp, .inl (cP, 8, .inr (.inr (.inr (.inr fp)))))] hpz)) 0 0 (va_A [(w0, .inr (5, [.ref wk, .ref wl, .ref wc, .ref wp, .int wn, .int wh, .int wg])), (wk, .inl (cI, 125, .inl fk)), (wp, .inl (cP, 8, .inr (.inr (.inr (.inr fp)))))] hpz) := by
  refine Met.ofW (cc := cX5_mostBy) (maxL := 8) (ret := (some .int)) (by decide) rfl ?_
  intro p e s m args below meth c s₁ B hml hv
  obtain ⟨rfl, hsz, hP, hK, hD0, hN, hZ⟩ := hv
  have hx := B.exec
  have hb := B.bytes
  have hr := B.returns
  have hts := atoms_spec (ws := wsX5_mostBy) B.pre
  have hown : s.vm.findClass RX5 = some m.cls := findClass_of_methodNamed B.named
  have hlocks := B.notSynchronized
  subst hsz
  have hD := hD0.self (sz := s.heap.size)
  have hA := zA_of hD
  have hl := lv_entry ([.ref w0, .ref u0, .int 2, .int d, .int sec]) (n := 8) (Nat.le_of_ble_eq_true rfl)
  rw [lg_entry_eq]
  generalize (lg_sl ([.ref w0, .ref u0, .int 2, .int d, .int sec]) ++ List.replicate (8 - (lg_sl ([.ref w0, .ref u0, .int 2, .int d, .int sec])).length) Slot.unset).toArray = ls at hl ⊢
  replace hl : lv_has ls 8 [(0, .ref w0), (1, .ref u0), (2, .int 2), (3, .int d), (4, .int sec)] := hl
  refine zw_begin hP hD (fun H locs hP1 hS => ?_)
  clear hP
  have hP := hP1
  clear hP1
  obtain ⟨⟨p1_u0, p2_u0⟩, ⟨p3_u0, p4_u0⟩, p5_u0, p6_u0⟩ := id hr_u0
  refine lv_aload_n hx hb dX5_mostBy_0 rfl (lv_at hl 1 rfl) ?_
  refine lv_iload_n hx hb dX5_mostBy_1 rfl (lv_at hl 3 rfl) ?_
  refine lv_aload_n hx hb dX5_mostBy_2 rfl (lv_at hl 0 rfl) ?_
  refine va_get (D := D) (ci := 5) (v := .int wh) (C := RX5) (T := TX5) (N := 7) hx hb hts hi_X5_mostBy_5 hown hK hP 0 rfl rfl 5 (by decide) (hts (.fieldLink RX5 31 "TheLiningsInIt$Ways" "hurry" "I") (List.mem_of_getElem? (i := 1) rfl)) (fun _ h9 => h9) rfl dX5_mostBy_3 ?_
  refine zc_V (As := [.int d, .int wh]) (rest := []) ⟨hx, hb, hml, hown, hts⟩ (c_Pull_waysAt l D cI cJ cZ cP cS po (d) (wh) u0 (ki) (a_) (ta) hu_u0 ⟨by omega, by omega, by omega, by omega⟩ hy9 hy10 hy4 hy5) (cwV 2 hts gX5_mostBy_X2_waysAt rfl rfl rfl ⟨rfl, dh_X2_waysAt⟩ ⟨Nat.le_of_ble_eq_true rfl, Nat.le_of_ble_eq_true rfl⟩) hK hN (hZ.kept hS) hP zP_nil (va_recv (q := (RX2, TX2, 3)) hK (zPu_P (hZ.kept hS) hu_u0) (ci := 2) (q0 := 0) rfl rfl) rfl hl.1 rfl (Nat.le_of_ble_eq_true rfl) dX5_mostBy_6 ⟨Nat.le_of_ble_eq_true rfl, Nat.le_of_ble_eq_true rfl⟩ (fun r_1 hr_1 => ?_)
  obtain ⟨g_2, g_3⟩ := hr_1
  refine lv_istore (lv' := [(5, .int r_1), (0, .ref w0), (1, .ref u0), (2, .int 2), (3, .int d), (4, .int sec)]) hx hb dX5_mostBy_9 hl (by decide) rfl (fun ls hl => ?_)
  refine lv_iload hx hb dX5_mostBy_11 (lv_at hl 5 rfl) ?_
  refine lv_aload_n hx hb dX5_mostBy_13 rfl (lv_at hl 2 rfl) ?_
  refine va_get (D := D) (ci := 2) (v := .int ta) (C := RX2) (T := TX2) (N := 3) hx hb hts hi_X5_mostBy_2 hown hK (zPu_P (hZ.kept hS) hu_u0) 0 rfl rfl 2 (by decide) (hts (.fieldLink RX5 49 "TheLiningsInIt$Pull" "takes" "I") (List.mem_of_getElem? (i := 2) rfl)) (fun _ h9 => h9) rfl dX5_mostBy_14 ?_
  refine lv_isub hx hb dX5_mostBy_17 ?_
  refine lv_topi (fun x_4 ex_4 => ?_)
  refine lv_istore (lv' := [(6, .int x_4), (5, .int r_1), (0, .ref w0), (1, .ref u0), (2, .int 2), (3, .int d), (4, .int sec)]) hx hb dX5_mostBy_18 hl (by decide) rfl (fun ls hl => ?_)
  refine lv_iconst (v := 0) hx hb dX5_mostBy_20 (by decide) ?_
  refine lv_istore (lv' := [(7, .int 0), (6, .int x_4), (5, .int r_1), (0, .ref w0), (1, .ref u0), (2, .int 2), (3, .int d), (4, .int sec)]) hx hb dX5_mostBy_21 hl (by decide) rfl (fun ls hl => ?_)
  refine lv_iload hx hb dX5_mostBy_23 (lv_at hl 2 rfl) ?_
  refine lv_if_le (tgt := 50) hx hb dX5_mostBy_25 (by decide) (fun c_5 => ?_) (fun c_5 => ?_)
  · have fc_5 : r_1.toInt ≤ 0 := zf_le c_5 rfl (by decide)
    refine lv_iload hx hb dX5_mostBy_50 (lv_at hl 2 rfl) ?_
    refine lv_bipush (v := 12) hx hb dX5_mostBy_52 (by decide) ?_
    refine lv_icmp_ge (tgt := 86) hx hb dX5_mostBy_54 (by decide) (fun c_6 => ?_) (fun c_6 => ?_)
    · exfalso; have fc_6 : 12 ≤ r_1.toInt := zf_le c_6 (by decide) rfl; omega
    · have fc_6 : r_1.toInt < 12 := zf_nle c_6 (by decide) rfl
      refine lv_iload hx hb dX5_mostBy_57 (lv_at hl 0 rfl) ?_
      refine lv_bipush (v := 12) hx hb dX5_mostBy_59 (by decide) ?_
      refine lv_iload hx hb dX5_mostBy_61 (lv_at hl 2 rfl) ?_
      refine lv_isub hx hb dX5_mostBy_63 ?_
      refine lv_topi (fun x_7 ex_7 => ?_)
      have qx_7 : x_7.toInt = 12 - r_1.toInt := by rw [ex_7]; exact zf_sub (by decide) rfl (by omega) (by omega)
      refine lv_aload_n hx hb dX5_mostBy_64 rfl (lv_at hl 3 rfl) ?_
      refine lv_iload_n hx hb dX5_mostBy_65 rfl (lv_at hl 5 rfl) ?_
      refine lv_iconst (v := 1) hx hb dX5_mostBy_66 (by decide) ?_
      refine lv_isub hx hb dX5_mostBy_67 ?_
      refine lv_topi (fun y_8 ey_8 => ?_)
      obtain rfl : y_8 = 1 := ey_8.trans (by decide)
      refine lv_aload_n hx hb dX5_mostBy_68 rfl (lv_at hl 4 rfl) ?_
      refine lv_iload_n hx hb dX5_mostBy_69 rfl (lv_at hl 6 rfl) ?_
      refine lv_aload_n hx hb dX5_mostBy_70 rfl (lv_at hl 3 rfl) ?_
      refine va_get (D := D) (ci := 5) (v := .int wh) (C := RX5) (T := TX5) (N := 7) hx hb hts hi_X5_mostBy_5 hown hK hP 0 rfl rfl 5 (by decide) (hts (.fieldLink RX5 31 "TheLiningsInIt$Ways" "hurry" "I") (List.mem_of_getElem? (i := 1) rfl)) (fun _ h9 => h9) rfl dX5_mostBy_71 ?_
      refine zc_V (As := [.int d, .int wh]) (rest := [.int 1, .ref w0, .int x_7, .int 0]) ⟨hx, hb, hml, hown, hts⟩ (c_Pull_deeper l D cI cJ cZ cP cS po (d) (wh) u0 (ki) (a_) (ta) hu_u0 ⟨by omega, by omega, by omega, by omega⟩ hy9 hy10 hy4 hy5) (cwV 2 hts gX5_mostBy_X2_deeper rfl rfl rfl ⟨rfl, dh_X2_deeper⟩ ⟨Nat.le_of_ble_eq_true rfl, Nat.le_of_ble_eq_true rfl⟩) hK hN (hZ.kept hS) hP zP_nil (va_recv (q := (RX2, TX2, 3)) hK (zPu_P (hZ.kept hS) hu_u0) (ci := 2) (q0 := 0) rfl rfl) rfl hl.1 rfl (Nat.le_of_ble_eq_true rfl) dX5_mostBy_74 ⟨Nat.le_of_ble_eq_true rfl, Nat.le_of_ble_eq_true rfl⟩ (fun r_9 hr_9 => ?_)
      obtain ⟨g_10, g_11⟩ := hr_9
      refine lv_iload hx hb dX5_mostBy_77 (lv_at hl 1 rfl) ?_
      skip
      refine zw_V (As := [.int 1, .int r_9, .int x_4]) (rest := [.int x_7, .int 0]) (wr := []) ⟨hx, hb, hml, hown, hts⟩ (c_W_most_1 l D cI cJ cZ cP cS po w0 wk wl wc wp (wn) (wh) (wg) fp fk (r_9) (x_4) hy2 hy3 hy4 hy5 hy6 hy7 hwp (by omega) (by omega) H.size) (cwV 3 hts gX5_mostBy_X5_most rfl rfl rfl ⟨rfl, dh_X5_most⟩ ⟨Nat.le_of_ble_eq_true rfl, Nat.le_of_ble_eq_true rfl⟩) hK hN (hZ.kept hS) hP hD hS hA [0, 1, 2] [] rfl rfl (by decide) (by decide) (by decide) (va_recv (q := (RX5, TX5, 7)) hK hP (ci := 5) (q0 := 0) rfl rfl) rfl hl.1 rfl (Nat.le_of_ble_eq_true rfl) dX5_mostBy_79 ⟨Nat.le_of_ble_eq_true rfl, Nat.le_of_ble_eq_true rfl⟩ (fun r_12 u_13 H locs hr_12 hP hD hS => ?_)
      obtain ⟨q_14, rfl⟩ : ∃ z, z = u_13 := ⟨_, rfl⟩
      have h9R := zRe (ws' := [(w0, .inr (5, [.ref wk, .ref wl, .ref wc, .ref wp, .int wn, .int wh, .int wg])), (wk, .inl (cI, 125, .inl q_14)), (wp, .inl (cP, 8, .inr (.inr (.inr (.inr fp)))))]) hP hD rfl
      clear hP hD
      obtain ⟨hP, hD⟩ := h9R
      refine lv_imul hx hb dX5_mostBy_82 ?_
      refine lv_topi (fun x_15 ex_15 => ?_)
      refine lv_iadd hx hb dX5_mostBy_83 ?_
      refine lv_topi (fun x_16 ex_16 => ?_)
      have rbx_16 := zf_rng x_15
      have qx_16 : x_16.toInt = 0 + x_15.toInt := by rw [ex_16]; exact zf_add (by decide) rfl (by omega) (by omega)
      refine lv_istore (lv' := [(7, .int x_16), (6, .int x_4), (5, .int r_1), (0, .ref w0), (1, .ref u0), (2, .int 2), (3, .int d), (4, .int sec)]) hx hb dX5_mostBy_84 hl (by decide) rfl (fun ls hl => ?_)
      refine lv_iload hx hb dX5_mostBy_86 (lv_at hl 0 rfl) ?_
      exact W.iret (v := x_16) hx hb hr (fun t ht hW => ⟨⟨x_16, q_14, rfl, trivial, zRet ht hP hD [0, 1, 2] (by decide) rfl⟩, hS.F ht⟩) hS.2.2 dX5_mostBy_88
  · have fc_5 : 0 < r_1.toInt := zf_nle c_5 rfl (by decide)
    refine lv_iload hx hb dX5_mostBy_28 (lv_at hl 0 rfl) ?_
    refine lv_iload hx hb dX5_mostBy_30 (lv_at hl 2 rfl) ?_
    refine lv_aload_n hx hb dX5_mostBy_32 rfl (lv_at hl 3 rfl) ?_
    refine lv_iload_n hx hb dX5_mostBy_33 rfl (lv_at hl 5 rfl) ?_
    refine lv_iconst (v := 1) hx hb dX5_mostBy_34 (by decide) ?_
    refine lv_isub hx hb dX5_mostBy_35 ?_
    refine lv_topi (fun y_17 ey_17 => ?_)
    obtain rfl : y_17 = 1 := ey_17.trans (by decide)
    refine lv_aload_n hx hb dX5_mostBy_36 rfl (lv_at hl 4 rfl) ?_
    refine lv_iload_n hx hb dX5_mostBy_37 rfl (lv_at hl 6 rfl) ?_
    refine zc_V (As := [.int d]) (rest := [.int 1, .ref w0, .int r_1, .int 0]) ⟨hx, hb, hml, hown, hts⟩ (c_Pull_shallower l D cI cJ cZ cP cS po (d) u0 (ki) (a_) (ta) hu_u0 ⟨by omega, by omega, by omega, by omega⟩ hy9 hy10) (cwV 1 hts gX5_mostBy_X2_shallower rfl rfl rfl ⟨rfl, dh_X2_shallower⟩ ⟨Nat.le_of_ble_eq_true rfl, Nat.le_of_ble_eq_true rfl⟩) hK hN (hZ.kept hS) hP zP_nil (va_recv (q := (RX2, TX2, 3)) hK (zPu_P (hZ.kept hS) hu_u0) (ci := 2) (q0 := 0) rfl rfl) rfl hl.1 rfl (Nat.le_of_ble_eq_true rfl) dX5_mostBy_38 ⟨Nat.le_of_ble_eq_true rfl, Nat.le_of_ble_eq_true rfl⟩ (fun r_18 hr_18 => ?_)
    obtain ⟨g_19, g_20⟩ := hr_18
    refine lv_iload hx hb dX5_mostBy_41 (lv_at hl 1 rfl) ?_
    skip
    refine zw_V (As := [.int 1, .int r_18, .int x_4]) (rest := [.int r_1, .int 0]) (wr := []) ⟨hx, hb, hml, hown, hts⟩ (c_W_most_1 l D cI cJ cZ cP cS po w0 wk wl wc wp (wn) (wh) (wg) fp fk (r_18) (x_4) hy2 hy3 hy4 hy5 hy6 hy7 hwp (by omega) (by omega) H.size) (cwV 3 hts gX5_mostBy_X5_most rfl rfl rfl ⟨rfl, dh_X5_most⟩ ⟨Nat.le_of_ble_eq_true rfl, Nat.le_of_ble_eq_true rfl⟩) hK hN (hZ.kept hS) hP hD hS hA [0, 1, 2] [] rfl rfl (by decide) (by decide) (by decide) (va_recv (q := (RX5, TX5, 7)) hK hP (ci := 5) (q0 := 0) rfl rfl) rfl hl.1 rfl (Nat.le_of_ble_eq_true rfl) dX5_mostBy_43 ⟨Nat.le_of_ble_eq_true rfl, Nat.le_of_ble_eq_true rfl⟩ (fun r_21 u_22 H locs hr_21 hP hD hS => ?_)
    obtain ⟨q_23, rfl⟩ : ∃ z, z = u_22 := ⟨_, rfl⟩
    have h9R := zRe (ws' := [(w0, .inr (5, [.ref wk, .ref wl, .ref wc, .ref wp, .int wn, .int wh, .int wg])), (wk, .inl (cI, 125, .inl q_23)), (wp, .inl (cP, 8, .inr (.inr (.inr (.inr fp)))))]) hP hD rfl
    clear hP hD
    obtain ⟨hP, hD⟩ := h9R
    refine lv_imul hx hb dX5_mostBy_46 ?_
    refine lv_topi (fun x_24 ex_24 => ?_)
    refine lv_iadd hx hb dX5_mostBy_47 ?_
    refine lv_topi (fun x_25 ex_25 => ?_)
    have rbx_25 := zf_rng x_24
    have qx_25 : x_25.toInt = 0 + x_24.toInt := by rw [ex_25]; exact zf_add (by decide) rfl (by omega) (by omega)
    refine lv_istore (lv' := [(7, .int x_25), (6, .int x_4), (5, .int r_1), (0, .ref w0), (1, .ref u0), (2, .int 2), (3, .int d), (4, .int sec)]) hx hb dX5_mostBy_48 hl (by decide) rfl (fun ls hl => ?_)
    refine lv_iload hx hb dX5_mostBy_50 (lv_at hl 2 rfl) ?_
    refine lv_bipush (v := 12) hx hb dX5_mostBy_52 (by decide) ?_
    refine lv_icmp_ge (tgt := 86) hx hb dX5_mostBy_54 (by decide) (fun c_26 => ?_) (fun c_26 => ?_)
    · have fc_26 : 12 ≤ r_1.toInt := zf_le c_26 (by decide) rfl
      refine lv_iload hx hb dX5_mostBy_86 (lv_at hl 0 rfl) ?_
      exact W.iret (v := x_25) hx hb hr (fun t ht hW => ⟨⟨x_25, q_23, rfl, trivial, zRet ht hP hD [0, 1, 2] (by decide) rfl⟩, hS.F ht⟩) hS.2.2 dX5_mostBy_88
    · have fc_26 : r_1.toInt < 12 := zf_nle c_26 (by decide) rfl
      refine lv_iload hx hb dX5_mostBy_57 (lv_at hl 0 rfl) ?_
      refine lv_bipush (v := 12) hx hb dX5_mostBy_59 (by decide) ?_
      refine lv_iload hx hb dX5_mostBy_61 (lv_at hl 2 rfl) ?_
      refine lv_isub hx hb dX5_mostBy_63 ?_
      refine lv_topi (fun x_27 ex_27 => ?_)
      have qx_27 : x_27.toInt = 12 - r_1.toInt := by rw [ex_27]; exact zf_sub (by decide) rfl (by omega) (by omega)
      refine lv_aload_n hx hb dX5_mostBy_64 rfl (lv_at hl 3 rfl) ?_
      refine lv_iload_n hx hb dX5_mostBy_65 rfl (lv_at hl 5 rfl) ?_
      refine lv_iconst (v := 1) hx hb dX5_mostBy_66 (by decide) ?_
      refine lv_isub hx hb dX5_mostBy_67 ?_
      refine lv_topi (fun y_28 ey_28 => ?_)
      obtain rfl : y_28 = 1 := ey_28.trans (by decide)
      refine lv_aload_n hx hb dX5_mostBy_68 rfl (lv_at hl 4 rfl) ?_
      refine lv_iload_n hx hb dX5_mostBy_69 rfl (lv_at hl 6 rfl) ?_
      refine lv_aload_n hx hb dX5_mostBy_70 rfl (lv_at hl 3 rfl) ?_
      refine va_get (D := D) (ci := 5) (v := .int wh) (C := RX5) (T := TX5) (N := 7) hx hb hts hi_X5_mostBy_5 hown hK hP 0 rfl rfl 5 (by decide) (hts (.fieldLink RX5 31 "TheLiningsInIt$Ways" "hurry" "I") (List.mem_of_getElem? (i := 1) rfl)) (fun _ h9 => h9) rfl dX5_mostBy_71 ?_
      refine zc_V (As := [.int d, .int wh]) (rest := [.int 1, .ref w0, .int x_27, .int x_25]) ⟨hx, hb, hml, hown, hts⟩ (c_Pull_deeper l D cI cJ cZ cP cS po (d) (wh) u0 (ki) (a_) (ta) hu_u0 ⟨by omega, by omega, by omega, by omega⟩ hy9 hy10 hy4 hy5) (cwV 2 hts gX5_mostBy_X2_deeper rfl rfl rfl ⟨rfl, dh_X2_deeper⟩ ⟨Nat.le_of_ble_eq_true rfl, Nat.le_of_ble_eq_true rfl⟩) hK hN (hZ.kept hS) hP zP_nil (va_recv (q := (RX2, TX2, 3)) hK (zPu_P (hZ.kept hS) hu_u0) (ci := 2) (q0 := 0) rfl rfl) rfl hl.1 rfl (Nat.le_of_ble_eq_true rfl) dX5_mostBy_74 ⟨Nat.le_of_ble_eq_true rfl, Nat.le_of_ble_eq_true rfl⟩ (fun r_29 hr_29 => ?_)
      obtain ⟨g_30, g_31⟩ := hr_29
      refine lv_iload hx hb dX5_mostBy_77 (lv_at hl 1 rfl) ?_
      skip
      refine zw_V (As := [.int 1, .int r_29, .int x_4]) (rest := [.int x_27, .int x_25]) (wr := []) ⟨hx, hb, hml, hown, hts⟩ (c_W_most_1 l D cI cJ cZ cP cS po w0 wk wl wc wp (wn) (wh) (wg) fp q_23 (r_29) (x_4) hy2 hy3 hy4 hy5 hy6 hy7 hwp (by omega) (by omega) H.size) (cwV 3 hts gX5_mostBy_X5_most rfl rfl rfl ⟨rfl, dh_X5_most⟩ ⟨Nat.le_of_ble_eq_true rfl, Nat.le_of_ble_eq_true rfl⟩) hK hN (hZ.kept hS) hP hD hS hA [0, 1, 2] [] rfl rfl (by decide) (by decide) (by decide) (va_recv (q := (RX5, TX5, 7)) hK hP (ci := 5) (q0 := 0) rfl rfl) rfl hl.1 rfl (Nat.le_of_ble_eq_true rfl) dX5_mostBy_79 ⟨Nat.le_of_ble_eq_true rfl, Nat.le_of_ble_eq_true rfl⟩ (fun r_32 u_33 H locs hr_32 hP hD hS => ?_)
      obtain ⟨q_34, rfl⟩ : ∃ z, z = u_33 := ⟨_, rfl⟩
      have h9R := zRe (ws' := [(w0, .inr (5, [.ref wk, .ref wl, .ref wc, .ref wp, .int wn, .int wh, .int wg])), (wk, .inl (cI, 125, .inl q_34)), (wp, .inl (cP, 8, .inr (.inr (.inr (.inr fp)))))]) hP hD rfl
      clear hP hD
      obtain ⟨hP, hD⟩ := h9R
      refine lv_imul hx hb dX5_mostBy_82 ?_
      refine lv_topi (fun x_35 ex_35 => ?_)
      refine lv_iadd hx hb dX5_mostBy_83 ?_
      refine lv_topi (fun x_36 ex_36 => ?_)
      refine lv_istore (lv' := [(7, .int x_36), (6, .int x_4), (5, .int r_1), (0, .ref w0), (1, .ref u0), (2, .int 2), (3, .int d), (4, .int sec)]) hx hb dX5_mostBy_84 hl (by decide) rfl (fun ls hl => ?_)
      refine lv_iload hx hb dX5_mostBy_86 (lv_at hl 0 rfl) ?_
      exact W.iret (v := x_36) hx hb hr (fun t ht hW => ⟨⟨x_36, q_34, rfl, trivial, zRet ht hP hD [0, 1, 2] (by decide) rfl⟩, hS.F ht⟩) hS.2.2 dX5_mostBy_88
set_option maxHeartbeats 4000000 in
set_option maxRecDepth 100000 in
theorem c_W_most_2 (l : Launch) (D : va_G) (cI cJ cZ cP cS : ClassId) (po : zPool) (w0 wk wl wc wp : Nat) (wn wh wg : Int32) (fp : Nat → Option Nat) (fk : Nat → Int32) (d sec : Int32) (hy0 : 0 ≤ wn.toInt) (hy1 : wn.toInt ≤ 8) (hy2 : 0 ≤ wh.toInt) (hy3 : wh.toInt ≤ 9) (hy4 : 0 ≤ wg.toInt) (hy5 : wg.toInt ≤ 60) (hwp : zWP po fp) (hy7 : 0 ≤ d.toInt) (hy8 : d.toInt ≤ 24) (hpz : Nat) : Met l yX5_most wsX5_most ({ frames := 5, cells := 0, slots := 0, locals := 126 }) (va_Pc [.ref w0, .int 2, .int d, .int sec] (zW D (zKT cI cJ cZ cP cS) po [(w0, .inr (5, [.ref wk, .ref wl, .ref wc, .ref wp, .int wn, .int wh, .int wg])), (wk, .inl (cI, 125, .inl fk)), (wp, .inl (cP, 8, .inr (.inr (.inr (.inr fp)))))] hpz)) (va_Qi (fun (r : Int32) (fk2 : (Nat → Int32)) => True) (zB D [(w0, .inr (5, [.ref wk, .ref wl, .ref wc, .ref wp, .int wn, .int wh, .int wg])), (wk, .inl (cI, 125, .inl fk)), (wp, .inl (cP, 8, .inr (.inr (.inr (.inr fp)))))] hpz (fun (fk2 : Nat → Int32) => [(w0, .inr (5, [.ref wk, .ref wl, .ref wc, .ref wp, .int wn, .int wh, .int wg])), (wk, .inl (cI, 125, .inl fk2)), (wp, .inl (cP, 8, .inr (.inr (.inr (.inr fp)))))])) (va_A [(w0, .inr (5, [.ref wk, .ref wl, .ref wc, .ref wp, .int wn, .int wh, .int wg])), (wk, .inl (cI, 125, .inl fk)), (wp, .inl (cP, 8, .inr (.inr (.inr (.inr fp)))))] hpz)) 0 0 (va_A [(w0, .inr (5, [.ref wk, .ref wl, .ref wc, .ref wp, .int wn, .int wh, .int wg])), (wk, .inl (cI, 125, .inl fk)), (wp, .inl (cP, 8, .inr (.inr (.inr (.inr fp)))))] hpz) := by
  refine Met.ofW (cc := cX5_most) (maxL := 9) (ret := (some .int)) (by decide) rfl ?_
  intro p e s m args below meth c s₁ B hml hv
  obtain ⟨rfl, hsz, hP, hK, hD0, hN, hZ⟩ := hv
  have hx := B.exec
  have hb := B.bytes
  have hr := B.returns
  have hts := atoms_spec (ws := wsX5_most) B.pre
  have hown : s.vm.findClass RX5 = some m.cls := findClass_of_methodNamed B.named
  have hlocks := B.notSynchronized
  subst hsz
  have hD := hD0.self (sz := s.heap.size)
  have hA := zA_of hD
  have hl := lv_entry ([.ref w0, .int 2, .int d, .int sec]) (n := 9) (Nat.le_of_ble_eq_true rfl)
  rw [lg_entry_eq]
  generalize (lg_sl ([.ref w0, .int 2, .int d, .int sec]) ++ List.replicate (9 - (lg_sl ([.ref w0, .int 2, .int d, .int sec])).length) Slot.unset).toArray = ls at hl ⊢
  replace hl : lv_has ls 9 [(0, .ref w0), (1, .int 2), (2, .int d), (3, .int sec)] := hl
  refine zw_begin hP hD (fun H locs hP1 hS => ?_)
  clear hP
  have hP := hP1
  clear hP1
  refine lv_iload_n hx hb dX5_most_0 rfl (lv_at hl 1 rfl) ?_
  refine lv_if_lt (tgt := 19) hx hb dX5_most_1 (by decide) (fun c_1 => ?_) (fun c_1 => ?_)
  · exact absurd c_1 (by decide)
  · refine lv_iload_n hx hb dX5_most_4 rfl (lv_at hl 1 rfl) ?_
    refine lv_iconst (v := 4) hx hb dX5_most_5 (by decide) ?_
    refine lv_icmp_gt (tgt := 19) hx hb dX5_most_6 (by decide) (fun c_2 => ?_) (fun c_2 => ?_)
    · exact absurd c_2 (by decide)
    · refine lv_iload_n hx hb dX5_most_9 rfl (lv_at hl 2 rfl) ?_
      refine lv_if_lt (tgt := 19) hx hb dX5_most_10 (by decide) (fun c_3 => ?_) (fun c_3 => ?_)
      · exfalso; have fc_3 : d.toInt < 0 := zf_lt c_3 rfl (by decide); omega
      · have fc_3 : 0 ≤ d.toInt := zf_nlt c_3 rfl (by decide)
        refine lv_iload_n hx hb dX5_most_13 rfl (lv_at hl 2 rfl) ?_
        refine lv_bipush (v := 24) hx hb dX5_most_14 (by decide) ?_
        refine lv_icmp_le (tgt := 21) hx hb dX5_most_16 (by decide) (fun c_4 => ?_) (fun c_4 => ?_)
        · have fc_4 : d.toInt ≤ 24 := zf_le c_4 rfl (by decide)
          refine lv_iload_n hx hb dX5_most_21 rfl (lv_at hl 2 rfl) ?_
          refine lv_if_eq (tgt := 29) hx hb dX5_most_22 (by decide) (fun c_5 => ?_) (fun c_5 => ?_)
          · have fc_5 : d.toInt = 0 := zf_eq c_5 rfl (by decide)
            refine lv_iload_n hx hb dX5_most_29 rfl (lv_at hl 2 rfl) ?_
            refine lv_if_ne (tgt := 41) hx hb dX5_most_30 (by decide) (fun c_6 => ?_) (fun c_6 => ?_)
            · exfalso; have fc_6 : d.toInt ≠ 0 := zf_ne c_6 rfl (by decide); omega
            · have fc_6 : d.toInt = 0 := zf_eq c_6 rfl (by decide)
              obtain ⟨t_7, zt_7, yt_7⟩ := hZ.1.1
              refine va_gets hx hb zt_7 hS hown (hts (.fieldLink RX5 79 "TheLiningsInIt$Ways" "POWERS" "[I") (List.mem_of_getElem? (i := 1) rfl)) (fun _ h9 => h9) dX5_most_33 ?_
              refine lv_iload_n hx hb dX5_most_36 rfl (lv_at hl 1 rfl) ?_
              refine va_ti hx hb yt_7 hS (zf_in (by decide) (by decide)) (v := .int 144) (by decide) dX5_most_37 ?_
              refine lv_goto (tgt := 42) hx hb dX5_most_38 (by decide) ?_
              exact W.iret (v := 144) hx hb hr (fun t ht hW => ⟨⟨144, fk, rfl, trivial, zRet ht hP hD [0, 1, 2] (by decide) rfl⟩, hS.F ht⟩) hS.2.2 dX5_most_42
          · have fc_5 : d.toInt ≠ 0 := zf_ne c_5 rfl (by decide)
            refine lv_iload_n hx hb dX5_most_25 rfl (lv_at hl 1 rfl) ?_
            refine lv_if_ne (tgt := 43) hx hb dX5_most_26 (by decide) (fun c_8 => ?_) (fun c_8 => ?_)
            · refine lv_iload_n hx hb dX5_most_43 rfl (lv_at hl 3 rfl) ?_
              refine lv_iload_n hx hb dX5_most_44 rfl (lv_at hl 1 rfl) ?_
              refine lv_aload_n hx hb dX5_most_45 rfl (lv_at hl 0 rfl) ?_
              refine va_get (D := D) (ci := 5) (v := .int wg) (C := RX5) (T := TX5) (N := 7) hx hb hts hi_X5_most_5 hown hK hP 0 rfl rfl 6 (by decide) (hts (.fieldLink RX5 34 "TheLiningsInIt$Ways" "longest" "I") (List.mem_of_getElem? (i := 2) rfl)) (fun _ h9 => h9) rfl dX5_most_46 ?_
              refine lv_imul hx hb dX5_most_49 ?_
              refine lv_topi (fun x_9 ex_9 => ?_)
              have qx_9 : x_9.toInt = 2 * wg.toInt := by rw [ex_9]; exact zf_mul (by decide) rfl (by omega) (by omega)
              refine lv_icmp_lt (tgt := 57) hx hb dX5_most_50 (by decide) (fun c_10 => ?_) (fun c_10 => ?_)
              · have fc_10 : sec.toInt < x_9.toInt := zf_lt c_10 rfl rfl
                refine lv_iconst (v := 0) hx hb dX5_most_57 (by decide) ?_
                refine lv_istore (lv' := [(4, .int 0), (0, .ref w0), (1, .int 2), (2, .int d), (3, .int sec)]) hx hb dX5_most_58 hl (by decide) rfl (fun ls hl => ?_)
                refine lv_iload_n hx hb dX5_most_60 rfl (lv_at hl 2 rfl) ?_
                refine lv_bipush (v := 25) hx hb dX5_most_61 (by decide) ?_
                refine lv_imul hx hb dX5_most_63 ?_
                refine lv_topi (fun y_11 ey_11 => ?_)
                obtain rfl : y_11 = 50 := ey_11.trans (by decide)
                refine lv_iload_n hx hb dX5_most_64 rfl (lv_at hl 3 rfl) ?_
                refine lv_iadd hx hb dX5_most_65 ?_
                refine lv_topi (fun x_12 ex_12 => ?_)
                have qx_12 : x_12.toInt = 50 + d.toInt := by rw [ex_12]; exact zf_add (by decide) rfl (by omega) (by omega)
                refine lv_istore (lv' := [(5, .int x_12), (4, .int 0), (0, .ref w0), (1, .int 2), (2, .int d), (3, .int sec)]) hx hb dX5_most_66 hl (by decide) rfl (fun ls hl => ?_)
                refine lv_iload hx hb dX5_most_68 (lv_at hl 1 rfl) ?_
                refine lv_if_eq (tgt := 92) hx hb dX5_most_70 (by decide) (fun c_13 => ?_) (fun c_13 => ?_)
                · refine lv_iconst (v := 0) hx hb dX5_most_92 (by decide) ?_
                  refine lv_istore (lv' := [(6, .int 0), (5, .int x_12), (4, .int 0), (0, .ref w0), (1, .int 2), (2, .int d), (3, .int sec)]) hx hb dX5_most_93 hl (by decide) rfl (fun ls hl => ?_)
                  refine lv_iconst (v := 0) hx hb dX5_most_95 (by decide) ?_
                  refine lv_istore (lv' := [(7, .int 0), (6, .int 0), (5, .int x_12), (4, .int 0), (0, .ref w0), (1, .int 2), (2, .int d), (3, .int sec)]) hx hb dX5_most_96 hl (by decide) rfl (fun ls hl => ?_)
                  obtain ⟨i_98, hi_98⟩ : ∃ i : Int32, i = 0 := ⟨_, rfl⟩
                  replace hl : lv_has ls 9 [(7, .int i_98), (6, .int 0), (5, .int x_12), (4, .int 0), (0, .ref w0), (1, .int 2), (2, .int d), (3, .int sec)] := by rw [hi_98]; exact lv_sub hl [0, 1, 2, 3, 4, 5, 6, 7] rfl
                  have h1i_98 : i_98.toInt = 0 := by rw [hi_98]; decide
                  obtain ⟨nfu, hni_98⟩ : ∃ nq9 : Nat, wn.toInt ≤ i_98.toInt + (nq9 : Int) := ⟨((wn.toInt : Int) - 0).toNat, by omega⟩
                  have hloi_98 : 0 ≤ i_98.toInt := by omega
                  obtain ⟨g_14, hg_14⟩ : ∃ g : Nat → Int32, g = fk := ⟨_, rfl⟩
                  replace hP : va_P D vwCl [(w0, .inr (5, [.ref wk, .ref wl, .ref wc, .ref wp, .int wn, .int wh, .int wg])), (wk, .inl (cI, 125, .inl g_14)), (wp, .inl (cP, 8, .inr (.inr (.inr (.inr fp)))))] H := by rw [hg_14]; exact hP
                  replace hD : va_D (va_A [(w0, .inr (5, [.ref wk, .ref wl, .ref wc, .ref wp, .int wn, .int wh, .int wg])), (wk, .inl (cI, 125, .inl fk)), (wp, .inl (cP, 8, .inr (.inr (.inr (.inr fp)))))] s.heap.size) [(w0, .inr (5, [.ref wk, .ref wl, .ref wc, .ref wp, .int wn, .int wh, .int wg])), (wk, .inl (cI, 125, .inl g_14)), (wp, .inl (cP, 8, .inr (.inr (.inr (.inr fp)))))] := by rw [hg_14]; exact hD
                  obtain ⟨v_15, hv_15⟩ : ∃ g : Int32, g = 0 := ⟨_, rfl⟩
                  replace hl : lv_has ls 9 [(7, .int i_98), (6, .int v_15), (5, .int x_12), (4, .int 0), (0, .ref w0), (1, .int 2), (2, .int d), (3, .int sec)] := by rw [hv_15]; exact hl
                  clear h1i_98 hi_98 hg_14 hv_15
                  skip
                  revert hni_98
                  revert hloi_98
                  revert hl
                  revert hS
                  revert hD
                  revert hP
                  revert ls
                  revert locs
                  revert H
                  revert g_14
                  revert v_15
                  revert i_98
                  induction nfu with
                  | zero =>
                    intro i_98 v_15 g_14 H locs ls hP hD hS hl hloi_98 hni_98
                    have hzi_98 : wn.toInt ≤ i_98.toInt := by omega
                    refine lv_iload hx hb dX5_most_98 (lv_at hl 0 rfl) ?_
                    refine lv_aload_n hx hb dX5_most_100 rfl (lv_at hl 4 rfl) ?_
                    refine va_get (D := D) (ci := 5) (v := .int wn) (C := RX5) (T := TX5) (N := 7) hx hb hts hi_X5_most_5 hown hK hP 0 rfl rfl 4 (by decide) (hts (.fieldLink RX5 27 "TheLiningsInIt$Ways" "count" "I") (List.mem_of_getElem? (i := 4) rfl)) (fun _ h9 => h9) rfl dX5_most_101 ?_
                    refine lv_icmp_ge (tgt := 144) hx hb dX5_most_104 (by decide) (fun c_16 => ?_) (fun c_16 => ?_)
                    · have fc_16 : wn.toInt ≤ i_98.toInt := zf_le c_16 rfl rfl
                      refine lv_iload hx hb dX5_most_144 (lv_at hl 3 rfl) ?_
                      refine lv_if_eq (tgt := 158) hx hb dX5_most_146 (by decide) (fun c_17 => ?_) (fun c_17 => ?_)
                      · refine lv_iload hx hb dX5_most_158 (lv_at hl 1 rfl) ?_
                        exact W.iret (v := v_15) hx hb hr (fun t ht hW => ⟨⟨v_15, g_14, rfl, trivial, zRet ht hP hD [0, 1, 2] (by decide) rfl⟩, hS.F ht⟩) hS.2.2 dX5_most_160
                      · exact absurd c_17 (by decide)
                    · exfalso; have fc_16 : i_98.toInt < wn.toInt := zf_nle c_16 rfl rfl; omega
                  | succ nfu ih =>
                    intro i_98 v_15 g_14 H locs ls hP hD hS hl hloi_98 hni_98
                    refine lv_iload hx hb dX5_most_98 (lv_at hl 0 rfl) ?_
                    refine lv_aload_n hx hb dX5_most_100 rfl (lv_at hl 4 rfl) ?_
                    refine va_get (D := D) (ci := 5) (v := .int wn) (C := RX5) (T := TX5) (N := 7) hx hb hts hi_X5_most_5 hown hK hP 0 rfl rfl 4 (by decide) (hts (.fieldLink RX5 27 "TheLiningsInIt$Ways" "count" "I") (List.mem_of_getElem? (i := 4) rfl)) (fun _ h9 => h9) rfl dX5_most_101 ?_
                    refine lv_icmp_ge (tgt := 144) hx hb dX5_most_104 (by decide) (fun c_18 => ?_) (fun c_18 => ?_)
                    · have fc_18 : wn.toInt ≤ i_98.toInt := zf_le c_18 rfl rfl
                      refine lv_iload hx hb dX5_most_144 (lv_at hl 3 rfl) ?_
                      refine lv_if_eq (tgt := 158) hx hb dX5_most_146 (by decide) (fun c_19 => ?_) (fun c_19 => ?_)
                      · refine lv_iload hx hb dX5_most_158 (lv_at hl 1 rfl) ?_
                        exact W.iret (v := v_15) hx hb hr (fun t ht hW => ⟨⟨v_15, g_14, rfl, trivial, zRet ht hP hD [0, 1, 2] (by decide) rfl⟩, hS.F ht⟩) hS.2.2 dX5_most_160
                      · exact absurd c_19 (by decide)
                    · have fc_18 : i_98.toInt < wn.toInt := zf_nle c_18 rfl rfl
                      refine lv_aload_n hx hb dX5_most_107 rfl (lv_at hl 4 rfl) ?_
                      refine lv_iload hx hb dX5_most_108 (lv_at hl 0 rfl) ?_
                      refine lv_iload_n hx hb dX5_most_110 rfl (lv_at hl 6 rfl) ?_
                      refine lv_iload_n hx hb dX5_most_111 rfl (lv_at hl 7 rfl) ?_
                      refine zc_Vq (As := [.int i_98, .int d, .int sec]) (rest := []) ⟨hx, hb, hml, hown, hts⟩ (c_W_mayBeAt l D cI cJ cZ cP cS po w0 wk wl wc wp (wn) (wh) (wg) fp (i_98) (d) (sec) hy0 hy1 hy2 hy3 hy4 hy5 hwp) (cwV 3 hts gX5_most_X5_mayBeAt rfl rfl rfl ⟨rfl, dh_X5_mayBeAt⟩ ⟨Nat.le_of_ble_eq_true rfl, Nat.le_of_ble_eq_true rfl⟩) hK hN (hZ.kept hS) hP (hP.sub [0, 2] rfl) (va_recv (q := (RX5, TX5, 7)) hK hP (ci := 5) (q0 := 0) rfl rfl) rfl hl.1 rfl (Nat.le_of_ble_eq_true rfl) dX5_most_112 ⟨Nat.le_of_ble_eq_true rfl, Nat.le_of_ble_eq_true rfl⟩ (fun r_20 hr_20 => ?_)
                      rcases hr_20 with ⟨rfl, g_21⟩ | ⟨rfl, g_22, g_23⟩ | ⟨rfl, g_24, g_25⟩ | ⟨rfl, g_26, g_27, g_28⟩ | ⟨rfl, g_29, g_30, g_31⟩ | ⟨⟨u_35, kiu_35, au_35, tu_35, rfl, huu_35⟩, g_32, g_33, g_34⟩
                      · exfalso; omega
                      · exfalso; omega
                      · refine lv_astoreN (lv' := [(8, .null), (7, .int i_98), (6, .int v_15), (5, .int x_12), (4, .int 0), (0, .ref w0), (1, .int 2), (2, .int d), (3, .int sec)]) hx hb dX5_most_115 hl (by decide) rfl (fun ls hl => ?_)
                        refine lv_aloadN hx hb dX5_most_117 (lv_at hl 0 rfl) ?_
                        refine lv_ifnullN (tgt := 138) hx hb dX5_most_119 (by decide) ?_
                        obtain ⟨x_36, ex_36⟩ : ∃ y : Int32, y = i_98 + 1 := ⟨_, rfl⟩
                        have qx_36 : x_36.toInt = i_98.toInt + 1 := dw_inc ex_36 fc_18
                        refine lv_iinc (v := x_36) (lv' := [(7, .int x_36), (8, .null), (6, .int v_15), (5, .int x_12), (4, .int 0), (0, .ref w0), (1, .int 2), (2, .int d), (3, .int sec)]) hx hb dX5_most_138 hl (k := 1) rfl ex_36.symm (by decide) rfl (fun ls hl => ?_)
                        refine lv_goto (tgt := 98) hx hb dX5_most_141 (by decide) ?_
                        exact ih x_36 v_15 (g_14) _ _ _ (hP.sub [0, 1, 2] rfl) (hD.sub [0, 1, 2] (by decide) rfl) hS (lv_sub hl [0, 2, 3, 4, 5, 6, 7, 8] rfl) (dw_lo hloi_98 qx_36) (dw_hn hni_98 qx_36)
                      · exfalso; omega
                      · refine lv_astoreN (lv' := [(8, .null), (7, .int i_98), (6, .int v_15), (5, .int x_12), (4, .int 0), (0, .ref w0), (1, .int 2), (2, .int d), (3, .int sec)]) hx hb dX5_most_115 hl (by decide) rfl (fun ls hl => ?_)
                        refine lv_aloadN hx hb dX5_most_117 (lv_at hl 0 rfl) ?_
                        refine lv_ifnullN (tgt := 138) hx hb dX5_most_119 (by decide) ?_
                        obtain ⟨x_37, ex_37⟩ : ∃ y : Int32, y = i_98 + 1 := ⟨_, rfl⟩
                        have qx_37 : x_37.toInt = i_98.toInt + 1 := dw_inc ex_37 fc_18
                        refine lv_iinc (v := x_37) (lv' := [(7, .int x_37), (8, .null), (6, .int v_15), (5, .int x_12), (4, .int 0), (0, .ref w0), (1, .int 2), (2, .int d), (3, .int sec)]) hx hb dX5_most_138 hl (k := 1) rfl ex_37.symm (by decide) rfl (fun ls hl => ?_)
                        refine lv_goto (tgt := 98) hx hb dX5_most_141 (by decide) ?_
                        exact ih x_37 v_15 (g_14) _ _ _ (hP.sub [0, 1, 2] rfl) (hD.sub [0, 1, 2] (by decide) rfl) hS (lv_sub hl [0, 2, 3, 4, 5, 6, 7, 8] rfl) (dw_lo hloi_98 qx_37) (dw_hn hni_98 qx_37)
                      · refine W.eq (g2 := F0 m 115 ls (.ref u_35 :: [])) rfl ?_
                        obtain ⟨hku_35, hau_35, htu_35⟩ := zPu_pr (hZ.kept hS) huu_35
                        refine lv_astore (lv' := [(8, .ref u_35), (7, .int i_98), (6, .int v_15), (5, .int x_12), (4, .int 0), (0, .ref w0), (1, .int 2), (2, .int d), (3, .int sec)]) hx hb dX5_most_115 hl (by decide) rfl (fun ls hl => ?_)
                        refine lv_aload hx hb dX5_most_117 (lv_at hl 0 rfl) ?_
                        refine lv_ifnull hx hb dX5_most_119 ?_
                        refine lv_iload hx hb dX5_most_122 (lv_at hl 2 rfl) ?_
                        refine lv_aload_n hx hb dX5_most_124 rfl (lv_at hl 5 rfl) ?_
                        refine lv_aload hx hb dX5_most_125 (lv_at hl 0 rfl) ?_
                        refine lv_iload_n hx hb dX5_most_127 rfl (lv_at hl 6 rfl) ?_
                        refine lv_iload_n hx hb dX5_most_128 rfl (lv_at hl 7 rfl) ?_
                        refine lv_iload_n hx hb dX5_most_129 rfl (lv_at hl 8 rfl) ?_
                        skip
                        refine zw_V (As := [.ref u_35, .int 2, .int d, .int sec]) (rest := [.int v_15]) (wr := []) ⟨hx, hb, hml, hown, hts⟩ (c_W_mostBy_2 l D cI cJ cZ cP cS po w0 wk wl wc wp (wn) (wh) (wg) fp g_14 (d) (sec) u_35 (kiu_35) (au_35) (tu_35) huu_35 ⟨by omega, by omega, by omega, by omega⟩ hy0 hy1 hy2 hy3 hy4 hy5 hwp hy7 hy8 H.size) (cwV 4 hts gX5_most_X5_mostBy rfl rfl rfl ⟨rfl, dh_X5_mostBy⟩ ⟨Nat.le_of_ble_eq_true rfl, Nat.le_of_ble_eq_true rfl⟩) hK hN (hZ.kept hS) hP hD hS hA [0, 1, 2] [] rfl rfl (by decide) (by decide) (by decide) (va_recv (q := (RX5, TX5, 7)) hK hP (ci := 5) (q0 := 0) rfl rfl) rfl hl.1 rfl (Nat.le_of_ble_eq_true rfl) dX5_most_130 ⟨Nat.le_of_ble_eq_true rfl, Nat.le_of_ble_eq_true rfl⟩ (fun r_38 u_39 H locs hr_38 hP hD hS => ?_)
                        obtain ⟨q_40, rfl⟩ : ∃ z, z = u_39 := ⟨_, rfl⟩
                        have h9R := zRe (ws' := [(w0, .inr (5, [.ref wk, .ref wl, .ref wc, .ref wp, .int wn, .int wh, .int wg])), (wk, .inl (cI, 125, .inl q_40)), (wp, .inl (cP, 8, .inr (.inr (.inr (.inr fp)))))]) hP hD rfl
                        clear hP hD
                        obtain ⟨hP, hD⟩ := h9R
                        refine va_mmax hx hb (hml.trans hl.1.symm) hown (hts (.methodLink RX5 52 Lib.Math.max.name) (List.mem_of_getElem? (i := 5) rfl)) (hts _ (List.mem_of_getElem? (i := 6) rfl)) (hts _ (List.mem_of_getElem? (i := 7) rfl)) (hts _ (List.mem_of_getElem? (i := 8) rfl)) (Nat.le_of_ble_eq_true rfl) (Nat.le_of_ble_eq_true rfl) (Nat.le_of_ble_eq_true rfl) (Nat.le_of_ble_eq_true rfl) dX5_most_133 ?_
                        refine lv_topi (fun x_41 ex_41 => ?_)
                        have qx_41 := zf_max ex_41 (x1 := v_15.toInt) (y1 := r_38.toInt) rfl rfl
                        refine lv_istore (lv' := [(6, .int x_41), (8, .ref u_35), (7, .int i_98), (5, .int x_12), (4, .int 0), (0, .ref w0), (1, .int 2), (2, .int d), (3, .int sec)]) hx hb dX5_most_136 hl (by decide) rfl (fun ls hl => ?_)
                        obtain ⟨x_42, ex_42⟩ : ∃ y : Int32, y = i_98 + 1 := ⟨_, rfl⟩
                        have qx_42 : x_42.toInt = i_98.toInt + 1 := dw_inc ex_42 fc_18
                        refine lv_iinc (v := x_42) (lv' := [(7, .int x_42), (6, .int x_41), (8, .ref u_35), (5, .int x_12), (4, .int 0), (0, .ref w0), (1, .int 2), (2, .int d), (3, .int sec)]) hx hb dX5_most_138 hl (k := 2) rfl ex_42.symm (by decide) rfl (fun ls hl => ?_)
                        refine lv_goto (tgt := 98) hx hb dX5_most_141 (by decide) ?_
                        exact ih x_42 x_41 (q_40) _ _ _ (hP.sub [0, 1, 2] rfl) (hD.sub [0, 1, 2] (by decide) rfl) hS (lv_sub hl [0, 1, 3, 4, 5, 6, 7, 8] rfl) (dw_lo hloi_98 qx_42) (dw_hn hni_98 qx_42)
                · exact absurd c_13 (by decide)
              · have fc_10 : x_9.toInt ≤ sec.toInt := zf_nlt c_10 rfl rfl
                refine lv_iconst (v := 1) hx hb dX5_most_53 (by decide) ?_
                refine lv_goto (tgt := 58) hx hb dX5_most_54 (by decide) ?_
                refine lv_istore (lv' := [(4, .int 1), (0, .ref w0), (1, .int 2), (2, .int d), (3, .int sec)]) hx hb dX5_most_58 hl (by decide) rfl (fun ls hl => ?_)
                refine lv_iload_n hx hb dX5_most_60 rfl (lv_at hl 2 rfl) ?_
                refine lv_bipush (v := 25) hx hb dX5_most_61 (by decide) ?_
                refine lv_imul hx hb dX5_most_63 ?_
                refine lv_topi (fun y_43 ey_43 => ?_)
                obtain rfl : y_43 = 50 := ey_43.trans (by decide)
                refine lv_iload_n hx hb dX5_most_64 rfl (lv_at hl 3 rfl) ?_
                refine lv_iadd hx hb dX5_most_65 ?_
                refine lv_topi (fun x_44 ex_44 => ?_)
                have qx_44 : x_44.toInt = 50 + d.toInt := by rw [ex_44]; exact zf_add (by decide) rfl (by omega) (by omega)
                refine lv_istore (lv' := [(5, .int x_44), (4, .int 1), (0, .ref w0), (1, .int 2), (2, .int d), (3, .int sec)]) hx hb dX5_most_66 hl (by decide) rfl (fun ls hl => ?_)
                refine lv_iload hx hb dX5_most_68 (lv_at hl 1 rfl) ?_
                refine lv_if_eq (tgt := 92) hx hb dX5_most_70 (by decide) (fun c_45 => ?_) (fun c_45 => ?_)
                · exact absurd c_45 (by decide)
                · refine lv_aload_n hx hb dX5_most_73 rfl (lv_at hl 2 rfl) ?_
                  refine va_get (D := D) (ci := 5) (v := .ref wk) (C := RX5) (T := TX5) (N := 7) hx hb hts hi_X5_most_5 hown hK hP 0 rfl rfl 0 (by decide) (hts (.fieldLink RX5 9 "TheLiningsInIt$Ways" "knownMost" "[I") (List.mem_of_getElem? (i := 3) rfl)) (fun _ h9 => h9) rfl dX5_most_74 ?_
                  refine lv_iload hx hb dX5_most_77 (lv_at hl 0 rfl) ?_
                  refine va_iald hx hb hK hP 1 0 rfl rfl (zf_in (by omega) (by omega)) dX5_most_79 ?_
                  refine lv_topi (fun x_46 ex_46 => ?_)
                  refine lv_iconst (v := (-1)) hx hb dX5_most_80 (by decide) ?_
                  refine lv_icmp_eq (tgt := 92) hx hb dX5_most_81 (by decide) (fun c_47 => ?_) (fun c_47 => ?_)
                  · have fc_47 : x_46.toInt = (-1) := zf_eq c_47 rfl (by decide)
                    refine lv_iconst (v := 0) hx hb dX5_most_92 (by decide) ?_
                    refine lv_istore (lv' := [(6, .int 0), (5, .int x_44), (4, .int 1), (0, .ref w0), (1, .int 2), (2, .int d), (3, .int sec)]) hx hb dX5_most_93 hl (by decide) rfl (fun ls hl => ?_)
                    refine lv_iconst (v := 0) hx hb dX5_most_95 (by decide) ?_
                    refine lv_istore (lv' := [(7, .int 0), (6, .int 0), (5, .int x_44), (4, .int 1), (0, .ref w0), (1, .int 2), (2, .int d), (3, .int sec)]) hx hb dX5_most_96 hl (by decide) rfl (fun ls hl => ?_)
                    obtain ⟨i_98, hi_98⟩ : ∃ i : Int32, i = 0 := ⟨_, rfl⟩
                    replace hl : lv_has ls 9 [(7, .int i_98), (6, .int 0), (5, .int x_44), (4, .int 1), (0, .ref w0), (1, .int 2), (2, .int d), (3, .int sec)] := by rw [hi_98]; exact lv_sub hl [0, 1, 2, 3, 4, 5, 6, 7] rfl
                    have h1i_98 : i_98.toInt = 0 := by rw [hi_98]; decide
                    obtain ⟨nfu, hni_98⟩ : ∃ nq9 : Nat, wn.toInt ≤ i_98.toInt + (nq9 : Int) := ⟨((wn.toInt : Int) - 0).toNat, by omega⟩
                    have hloi_98 : 0 ≤ i_98.toInt := by omega
                    obtain ⟨g_48, hg_48⟩ : ∃ g : Nat → Int32, g = fk := ⟨_, rfl⟩
                    replace hP : va_P D vwCl [(w0, .inr (5, [.ref wk, .ref wl, .ref wc, .ref wp, .int wn, .int wh, .int wg])), (wk, .inl (cI, 125, .inl g_48)), (wp, .inl (cP, 8, .inr (.inr (.inr (.inr fp)))))] H := by rw [hg_48]; exact hP
                    replace hD : va_D (va_A [(w0, .inr (5, [.ref wk, .ref wl, .ref wc, .ref wp, .int wn, .int wh, .int wg])), (wk, .inl (cI, 125, .inl fk)), (wp, .inl (cP, 8, .inr (.inr (.inr (.inr fp)))))] s.heap.size) [(w0, .inr (5, [.ref wk, .ref wl, .ref wc, .ref wp, .int wn, .int wh, .int wg])), (wk, .inl (cI, 125, .inl g_48)), (wp, .inl (cP, 8, .inr (.inr (.inr (.inr fp)))))] := by rw [hg_48]; exact hD
                    obtain ⟨v_49, hv_49⟩ : ∃ g : Int32, g = 0 := ⟨_, rfl⟩
                    replace hl : lv_has ls 9 [(7, .int i_98), (6, .int v_49), (5, .int x_44), (4, .int 1), (0, .ref w0), (1, .int 2), (2, .int d), (3, .int sec)] := by rw [hv_49]; exact hl
                    clear h1i_98 hi_98 hg_48 hv_49
                    skip
                    revert hni_98
                    revert hloi_98
                    revert hl
                    revert hS
                    revert hD
                    revert hP
                    revert ls
                    revert locs
                    revert H
                    revert g_48
                    revert v_49
                    revert i_98
                    induction nfu with
                    | zero =>
                      intro i_98 v_49 g_48 H locs ls hP hD hS hl hloi_98 hni_98
                      have hzi_98 : wn.toInt ≤ i_98.toInt := by omega
                      refine lv_iload hx hb dX5_most_98 (lv_at hl 0 rfl) ?_
                      refine lv_aload_n hx hb dX5_most_100 rfl (lv_at hl 4 rfl) ?_
                      refine va_get (D := D) (ci := 5) (v := .int wn) (C := RX5) (T := TX5) (N := 7) hx hb hts hi_X5_most_5 hown hK hP 0 rfl rfl 4 (by decide) (hts (.fieldLink RX5 27 "TheLiningsInIt$Ways" "count" "I") (List.mem_of_getElem? (i := 4) rfl)) (fun _ h9 => h9) rfl dX5_most_101 ?_
                      refine lv_icmp_ge (tgt := 144) hx hb dX5_most_104 (by decide) (fun c_50 => ?_) (fun c_50 => ?_)
                      · have fc_50 : wn.toInt ≤ i_98.toInt := zf_le c_50 rfl rfl
                        refine lv_iload hx hb dX5_most_144 (lv_at hl 3 rfl) ?_
                        refine lv_if_eq (tgt := 158) hx hb dX5_most_146 (by decide) (fun c_51 => ?_) (fun c_51 => ?_)
                        · exact absurd c_51 (by decide)
                        · refine lv_aload_n hx hb dX5_most_149 rfl (lv_at hl 4 rfl) ?_
                          refine va_get (D := D) (ci := 5) (v := .ref wk) (C := RX5) (T := TX5) (N := 7) hx hb hts hi_X5_most_5 hown hK hP 0 rfl rfl 0 (by decide) (hts (.fieldLink RX5 9 "TheLiningsInIt$Ways" "knownMost" "[I") (List.mem_of_getElem? (i := 3) rfl)) (fun _ h9 => h9) rfl dX5_most_150 ?_
                          refine lv_iload hx hb dX5_most_153 (lv_at hl 2 rfl) ?_
                          refine lv_iload hx hb dX5_most_155 (lv_at hl 1 rfl) ?_
                          refine va_iast hx hb hK hP hD hS 1 0 rfl rfl (zf_in (by omega) (by omega)) dX5_most_157 (fun H locs hP hD hS => ?_)
                          obtain ⟨g_52, hg_52⟩ : ∃ g : Nat → Int32, g = upd g_48 x_44.toNatClampNeg v_49 := ⟨_, rfl⟩
                          rw [← hg_52] at hP hD
                          clear hg_52
                          have h9R := zRe (ws' := [(w0, .inr (5, [.ref wk, .ref wl, .ref wc, .ref wp, .int wn, .int wh, .int wg])), (wk, .inl (cI, 125, .inl g_52)), (wp, .inl (cP, 8, .inr (.inr (.inr (.inr fp)))))]) hP hD rfl
                          clear hP hD
                          obtain ⟨hP, hD⟩ := h9R
                          refine lv_iload hx hb dX5_most_158 (lv_at hl 1 rfl) ?_
                          exact W.iret (v := v_49) hx hb hr (fun t ht hW => ⟨⟨v_49, g_52, rfl, trivial, zRet ht hP hD [0, 1, 2] (by decide) rfl⟩, hS.F ht⟩) hS.2.2 dX5_most_160
                      · exfalso; have fc_50 : i_98.toInt < wn.toInt := zf_nle c_50 rfl rfl; omega
                    | succ nfu ih =>
                      intro i_98 v_49 g_48 H locs ls hP hD hS hl hloi_98 hni_98
                      refine lv_iload hx hb dX5_most_98 (lv_at hl 0 rfl) ?_
                      refine lv_aload_n hx hb dX5_most_100 rfl (lv_at hl 4 rfl) ?_
                      refine va_get (D := D) (ci := 5) (v := .int wn) (C := RX5) (T := TX5) (N := 7) hx hb hts hi_X5_most_5 hown hK hP 0 rfl rfl 4 (by decide) (hts (.fieldLink RX5 27 "TheLiningsInIt$Ways" "count" "I") (List.mem_of_getElem? (i := 4) rfl)) (fun _ h9 => h9) rfl dX5_most_101 ?_
                      refine lv_icmp_ge (tgt := 144) hx hb dX5_most_104 (by decide) (fun c_53 => ?_) (fun c_53 => ?_)
                      · have fc_53 : wn.toInt ≤ i_98.toInt := zf_le c_53 rfl rfl
                        refine lv_iload hx hb dX5_most_144 (lv_at hl 3 rfl) ?_
                        refine lv_if_eq (tgt := 158) hx hb dX5_most_146 (by decide) (fun c_54 => ?_) (fun c_54 => ?_)
                        · exact absurd c_54 (by decide)
                        · refine lv_aload_n hx hb dX5_most_149 rfl (lv_at hl 4 rfl) ?_
                          refine va_get (D := D) (ci := 5) (v := .ref wk) (C := RX5) (T := TX5) (N := 7) hx hb hts hi_X5_most_5 hown hK hP 0 rfl rfl 0 (by decide) (hts (.fieldLink RX5 9 "TheLiningsInIt$Ways" "knownMost" "[I") (List.mem_of_getElem? (i := 3) rfl)) (fun _ h9 => h9) rfl dX5_most_150 ?_
                          refine lv_iload hx hb dX5_most_153 (lv_at hl 2 rfl) ?_
                          refine lv_iload hx hb dX5_most_155 (lv_at hl 1 rfl) ?_
                          refine va_iast hx hb hK hP hD hS 1 0 rfl rfl (zf_in (by omega) (by omega)) dX5_most_157 (fun H locs hP hD hS => ?_)
                          obtain ⟨g_55, hg_55⟩ : ∃ g : Nat → Int32, g = upd g_48 x_44.toNatClampNeg v_49 := ⟨_, rfl⟩
                          rw [← hg_55] at hP hD
                          clear hg_55
                          have h9R := zRe (ws' := [(w0, .inr (5, [.ref wk, .ref wl, .ref wc, .ref wp, .int wn, .int wh, .int wg])), (wk, .inl (cI, 125, .inl g_55)), (wp, .inl (cP, 8, .inr (.inr (.inr (.inr fp)))))]) hP hD rfl
                          clear hP hD
                          obtain ⟨hP, hD⟩ := h9R
                          refine lv_iload hx hb dX5_most_158 (lv_at hl 1 rfl) ?_
                          exact W.iret (v := v_49) hx hb hr (fun t ht hW => ⟨⟨v_49, g_55, rfl, trivial, zRet ht hP hD [0, 1, 2] (by decide) rfl⟩, hS.F ht⟩) hS.2.2 dX5_most_160
                      · have fc_53 : i_98.toInt < wn.toInt := zf_nle c_53 rfl rfl
                        refine lv_aload_n hx hb dX5_most_107 rfl (lv_at hl 4 rfl) ?_
                        refine lv_iload hx hb dX5_most_108 (lv_at hl 0 rfl) ?_
                        refine lv_iload_n hx hb dX5_most_110 rfl (lv_at hl 6 rfl) ?_
                        refine lv_iload_n hx hb dX5_most_111 rfl (lv_at hl 7 rfl) ?_
                        refine zc_Vq (As := [.int i_98, .int d, .int sec]) (rest := []) ⟨hx, hb, hml, hown, hts⟩ (c_W_mayBeAt l D cI cJ cZ cP cS po w0 wk wl wc wp (wn) (wh) (wg) fp (i_98) (d) (sec) hy0 hy1 hy2 hy3 hy4 hy5 hwp) (cwV 3 hts gX5_most_X5_mayBeAt rfl rfl rfl ⟨rfl, dh_X5_mayBeAt⟩ ⟨Nat.le_of_ble_eq_true rfl, Nat.le_of_ble_eq_true rfl⟩) hK hN (hZ.kept hS) hP (hP.sub [0, 2] rfl) (va_recv (q := (RX5, TX5, 7)) hK hP (ci := 5) (q0 := 0) rfl rfl) rfl hl.1 rfl (Nat.le_of_ble_eq_true rfl) dX5_most_112 ⟨Nat.le_of_ble_eq_true rfl, Nat.le_of_ble_eq_true rfl⟩ (fun r_56 hr_56 => ?_)
                        rcases hr_56 with ⟨rfl, g_57⟩ | ⟨rfl, g_58, g_59⟩ | ⟨rfl, g_60, g_61⟩ | ⟨rfl, g_62, g_63, g_64⟩ | ⟨rfl, g_65, g_66, g_67⟩ | ⟨⟨u_71, kiu_71, au_71, tu_71, rfl, huu_71⟩, g_68, g_69, g_70⟩
                        · exfalso; omega
                        · exfalso; omega
                        · refine lv_astoreN (lv' := [(8, .null), (7, .int i_98), (6, .int v_49), (5, .int x_44), (4, .int 1), (0, .ref w0), (1, .int 2), (2, .int d), (3, .int sec)]) hx hb dX5_most_115 hl (by decide) rfl (fun ls hl => ?_)
                          refine lv_aloadN hx hb dX5_most_117 (lv_at hl 0 rfl) ?_
                          refine lv_ifnullN (tgt := 138) hx hb dX5_most_119 (by decide) ?_
                          obtain ⟨x_72, ex_72⟩ : ∃ y : Int32, y = i_98 + 1 := ⟨_, rfl⟩
                          have qx_72 : x_72.toInt = i_98.toInt + 1 := dw_inc ex_72 fc_53
                          refine lv_iinc (v := x_72) (lv' := [(7, .int x_72), (8, .null), (6, .int v_49), (5, .int x_44), (4, .int 1), (0, .ref w0), (1, .int 2), (2, .int d), (3, .int sec)]) hx hb dX5_most_138 hl (k := 1) rfl ex_72.symm (by decide) rfl (fun ls hl => ?_)
                          refine lv_goto (tgt := 98) hx hb dX5_most_141 (by decide) ?_
                          exact ih x_72 v_49 (g_48) _ _ _ (hP.sub [0, 1, 2] rfl) (hD.sub [0, 1, 2] (by decide) rfl) hS (lv_sub hl [0, 2, 3, 4, 5, 6, 7, 8] rfl) (dw_lo hloi_98 qx_72) (dw_hn hni_98 qx_72)
                        · exfalso; omega
                        · refine lv_astoreN (lv' := [(8, .null), (7, .int i_98), (6, .int v_49), (5, .int x_44), (4, .int 1), (0, .ref w0), (1, .int 2), (2, .int d), (3, .int sec)]) hx hb dX5_most_115 hl (by decide) rfl (fun ls hl => ?_)
                          refine lv_aloadN hx hb dX5_most_117 (lv_at hl 0 rfl) ?_
                          refine lv_ifnullN (tgt := 138) hx hb dX5_most_119 (by decide) ?_
                          obtain ⟨x_73, ex_73⟩ : ∃ y : Int32, y = i_98 + 1 := ⟨_, rfl⟩
                          have qx_73 : x_73.toInt = i_98.toInt + 1 := dw_inc ex_73 fc_53
                          refine lv_iinc (v := x_73) (lv' := [(7, .int x_73), (8, .null), (6, .int v_49), (5, .int x_44), (4, .int 1), (0, .ref w0), (1, .int 2), (2, .int d), (3, .int sec)]) hx hb dX5_most_138 hl (k := 1) rfl ex_73.symm (by decide) rfl (fun ls hl => ?_)
                          refine lv_goto (tgt := 98) hx hb dX5_most_141 (by decide) ?_
                          exact ih x_73 v_49 (g_48) _ _ _ (hP.sub [0, 1, 2] rfl) (hD.sub [0, 1, 2] (by decide) rfl) hS (lv_sub hl [0, 2, 3, 4, 5, 6, 7, 8] rfl) (dw_lo hloi_98 qx_73) (dw_hn hni_98 qx_73)
                        · refine W.eq (g2 := F0 m 115 ls (.ref u_71 :: [])) rfl ?_
                          obtain ⟨hku_71, hau_71, htu_71⟩ := zPu_pr (hZ.kept hS) huu_71
                          refine lv_astore (lv' := [(8, .ref u_71), (7, .int i_98), (6, .int v_49), (5, .int x_44), (4, .int 1), (0, .ref w0), (1, .int 2), (2, .int d), (3, .int sec)]) hx hb dX5_most_115 hl (by decide) rfl (fun ls hl => ?_)
                          refine lv_aload hx hb dX5_most_117 (lv_at hl 0 rfl) ?_
                          refine lv_ifnull hx hb dX5_most_119 ?_
                          refine lv_iload hx hb dX5_most_122 (lv_at hl 2 rfl) ?_
                          refine lv_aload_n hx hb dX5_most_124 rfl (lv_at hl 5 rfl) ?_
                          refine lv_aload hx hb dX5_most_125 (lv_at hl 0 rfl) ?_
                          refine lv_iload_n hx hb dX5_most_127 rfl (lv_at hl 6 rfl) ?_
                          refine lv_iload_n hx hb dX5_most_128 rfl (lv_at hl 7 rfl) ?_
                          refine lv_iload_n hx hb dX5_most_129 rfl (lv_at hl 8 rfl) ?_
                          skip
                          refine zw_V (As := [.ref u_71, .int 2, .int d, .int sec]) (rest := [.int v_49]) (wr := []) ⟨hx, hb, hml, hown, hts⟩ (c_W_mostBy_2 l D cI cJ cZ cP cS po w0 wk wl wc wp (wn) (wh) (wg) fp g_48 (d) (sec) u_71 (kiu_71) (au_71) (tu_71) huu_71 ⟨by omega, by omega, by omega, by omega⟩ hy0 hy1 hy2 hy3 hy4 hy5 hwp hy7 hy8 H.size) (cwV 4 hts gX5_most_X5_mostBy rfl rfl rfl ⟨rfl, dh_X5_mostBy⟩ ⟨Nat.le_of_ble_eq_true rfl, Nat.le_of_ble_eq_true rfl⟩) hK hN (hZ.kept hS) hP hD hS hA [0, 1, 2] [] rfl rfl (by decide) (by decide) (by decide) (va_recv (q := (RX5, TX5, 7)) hK hP (ci := 5) (q0 := 0) rfl rfl) rfl hl.1 rfl (Nat.le_of_ble_eq_true rfl) dX5_most_130 ⟨Nat.le_of_ble_eq_true rfl, Nat.le_of_ble_eq_true rfl⟩ (fun r_74 u_75 H locs hr_74 hP hD hS => ?_)
                          obtain ⟨q_76, rfl⟩ : ∃ z, z = u_75 := ⟨_, rfl⟩
                          have h9R := zRe (ws' := [(w0, .inr (5, [.ref wk, .ref wl, .ref wc, .ref wp, .int wn, .int wh, .int wg])), (wk, .inl (cI, 125, .inl q_76)), (wp, .inl (cP, 8, .inr (.inr (.inr (.inr fp)))))]) hP hD rfl
                          clear hP hD
                          obtain ⟨hP, hD⟩ := h9R
                          refine va_mmax hx hb (hml.trans hl.1.symm) hown (hts (.methodLink RX5 52 Lib.Math.max.name) (List.mem_of_getElem? (i := 5) rfl)) (hts _ (List.mem_of_getElem? (i := 6) rfl)) (hts _ (List.mem_of_getElem? (i := 7) rfl)) (hts _ (List.mem_of_getElem? (i := 8) rfl)) (Nat.le_of_ble_eq_true rfl) (Nat.le_of_ble_eq_true rfl) (Nat.le_of_ble_eq_true rfl) (Nat.le_of_ble_eq_true rfl) dX5_most_133 ?_
                          refine lv_topi (fun x_77 ex_77 => ?_)
                          have qx_77 := zf_max ex_77 (x1 := v_49.toInt) (y1 := r_74.toInt) rfl rfl
                          refine lv_istore (lv' := [(6, .int x_77), (8, .ref u_71), (7, .int i_98), (5, .int x_44), (4, .int 1), (0, .ref w0), (1, .int 2), (2, .int d), (3, .int sec)]) hx hb dX5_most_136 hl (by decide) rfl (fun ls hl => ?_)
                          obtain ⟨x_78, ex_78⟩ : ∃ y : Int32, y = i_98 + 1 := ⟨_, rfl⟩
                          have qx_78 : x_78.toInt = i_98.toInt + 1 := dw_inc ex_78 fc_53
                          refine lv_iinc (v := x_78) (lv' := [(7, .int x_78), (6, .int x_77), (8, .ref u_71), (5, .int x_44), (4, .int 1), (0, .ref w0), (1, .int 2), (2, .int d), (3, .int sec)]) hx hb dX5_most_138 hl (k := 2) rfl ex_78.symm (by decide) rfl (fun ls hl => ?_)
                          refine lv_goto (tgt := 98) hx hb dX5_most_141 (by decide) ?_
                          exact ih x_78 x_77 (q_76) _ _ _ (hP.sub [0, 1, 2] rfl) (hD.sub [0, 1, 2] (by decide) rfl) hS (lv_sub hl [0, 1, 3, 4, 5, 6, 7, 8] rfl) (dw_lo hloi_98 qx_78) (dw_hn hni_98 qx_78)
                  · have fc_47 : x_46.toInt ≠ (-1) := zf_ne c_47 rfl (by decide)
                    refine lv_aload_n hx hb dX5_most_84 rfl (lv_at hl 2 rfl) ?_
                    refine va_get (D := D) (ci := 5) (v := .ref wk) (C := RX5) (T := TX5) (N := 7) hx hb hts hi_X5_most_5 hown hK hP 0 rfl rfl 0 (by decide) (hts (.fieldLink RX5 9 "TheLiningsInIt$Ways" "knownMost" "[I") (List.mem_of_getElem? (i := 3) rfl)) (fun _ h9 => h9) rfl dX5_most_85 ?_
                    refine lv_iload hx hb dX5_most_88 (lv_at hl 0 rfl) ?_
                    refine va_iald hx hb hK hP 1 0 rfl rfl (zf_in (by omega) (by omega)) dX5_most_90 ?_
                    refine lv_topi (fun x_79 ex_79 => ?_)
                    exact W.iret (v := x_79) hx hb hr (fun t ht hW => ⟨⟨x_79, fk, rfl, trivial, zRet ht hP hD [0, 1, 2] (by decide) rfl⟩, hS.F ht⟩) hS.2.2 dX5_most_91
            · exact absurd c_8 (by decide)
        · exfalso; have fc_4 : 24 < d.toInt := zf_nle c_4 rfl (by decide); omega
set_option maxHeartbeats 4000000 in
set_option maxRecDepth 100000 in
theorem c_W_mostBy_3 (l : Launch) (D : va_G) (cI cJ cZ cP cS : ClassId) (po : zPool) (w0 wk wl wc wp : Nat) (wn wh wg : Int32) (fp : Nat → Option Nat) (fk : Nat → Int32) (d sec : Int32) (u0 : Nat) (ki a_ ta : Int32) (hu_u0 : zPu po u0 ki a_ ta) (hr_u0 : zPr ki a_ ta) (hy2 : 0 ≤ wn.toInt) (hy3 : wn.toInt ≤ 8) (hy4 : 0 ≤ wh.toInt) (hy5 : wh.toInt ≤ 9) (hy6 : 0 ≤ wg.toInt) (hy7 : wg.toInt ≤ 60) (hwp : zWP po fp) (hy9 : 0 ≤ d.toInt) (hy10 : d.toInt ≤ 24) (hpz : Nat) : Met l yX5_mostBy wsX5_mostBy ({ frames := 6, cells := 0, slots := 0, locals := 154 }) (va_Pc [.ref w0, .ref u0, .int 3, .int d, .int sec] (zW D (zKT cI cJ cZ cP cS) po [(w0, .inr (5, [.ref wk, .ref wl, .ref wc, .ref wp, .int wn, .int wh, .int wg])), (wk, .inl (cI, 125, .inl fk)), (wp, .inl (cP, 8, .inr (.inr (.inr (.inr fp)))))] hpz)) (va_Qi (fun (r : Int32) (fk2 : (Nat → Int32)) => True) (zB D [(w0, .inr (5, [.ref wk, .ref wl, .ref wc, .ref wp, .int wn, .int wh, .int wg])), (wk, .inl (cI, 125, .inl fk)), (wp, .inl (cP, 8, .inr (.inr (.inr (.inr fp)))))] hpz (fun (fk2 : Nat → Int32) => [(w0, .inr (5, [.ref wk, .ref wl, .ref wc, .ref wp, .int wn, .int wh, .int wg])), (wk, .inl (cI, 125, .inl fk2)), (wp, .inl (cP, 8, .inr (.inr (.inr (.inr fp)))))])) (va_A [(w0, .inr (5, [.ref wk, .ref wl, .ref wc, .ref wp, .int wn, .int wh, .int wg])), (wk, .inl (cI, 125, .inl fk)), (wp, .inl (cP, 8, .inr (.inr (.inr (.inr fp)))))] hpz)) 0 0 (va_A [(w0, .inr (5, [.ref wk, .ref wl, .ref wc, .ref wp, .int wn, .int wh, .int wg])), (wk, .inl (cI, 125, .inl fk)), (wp, .inl (cP, 8, .inr (.inr (.inr (.inr fp)))))] hpz) := by
  refine Met.ofW (cc := cX5_mostBy) (maxL := 8) (ret := (some .int)) (by decide) rfl ?_
  intro p e s m args below meth c s₁ B hml hv
  obtain ⟨rfl, hsz, hP, hK, hD0, hN, hZ⟩ := hv
  have hx := B.exec
  have hb := B.bytes
  have hr := B.returns
  have hts := atoms_spec (ws := wsX5_mostBy) B.pre
  have hown : s.vm.findClass RX5 = some m.cls := findClass_of_methodNamed B.named
  have hlocks := B.notSynchronized
  subst hsz
  have hD := hD0.self (sz := s.heap.size)
  have hA := zA_of hD
  have hl := lv_entry ([.ref w0, .ref u0, .int 3, .int d, .int sec]) (n := 8) (Nat.le_of_ble_eq_true rfl)
  rw [lg_entry_eq]
  generalize (lg_sl ([.ref w0, .ref u0, .int 3, .int d, .int sec]) ++ List.replicate (8 - (lg_sl ([.ref w0, .ref u0, .int 3, .int d, .int sec])).length) Slot.unset).toArray = ls at hl ⊢
  replace hl : lv_has ls 8 [(0, .ref w0), (1, .ref u0), (2, .int 3), (3, .int d), (4, .int sec)] := hl
  refine zw_begin hP hD (fun H locs hP1 hS => ?_)
  clear hP
  have hP := hP1
  clear hP1
  obtain ⟨⟨p1_u0, p2_u0⟩, ⟨p3_u0, p4_u0⟩, p5_u0, p6_u0⟩ := id hr_u0
  refine lv_aload_n hx hb dX5_mostBy_0 rfl (lv_at hl 1 rfl) ?_
  refine lv_iload_n hx hb dX5_mostBy_1 rfl (lv_at hl 3 rfl) ?_
  refine lv_aload_n hx hb dX5_mostBy_2 rfl (lv_at hl 0 rfl) ?_
  refine va_get (D := D) (ci := 5) (v := .int wh) (C := RX5) (T := TX5) (N := 7) hx hb hts hi_X5_mostBy_5 hown hK hP 0 rfl rfl 5 (by decide) (hts (.fieldLink RX5 31 "TheLiningsInIt$Ways" "hurry" "I") (List.mem_of_getElem? (i := 1) rfl)) (fun _ h9 => h9) rfl dX5_mostBy_3 ?_
  refine zc_V (As := [.int d, .int wh]) (rest := []) ⟨hx, hb, hml, hown, hts⟩ (c_Pull_waysAt l D cI cJ cZ cP cS po (d) (wh) u0 (ki) (a_) (ta) hu_u0 ⟨by omega, by omega, by omega, by omega⟩ hy9 hy10 hy4 hy5) (cwV 2 hts gX5_mostBy_X2_waysAt rfl rfl rfl ⟨rfl, dh_X2_waysAt⟩ ⟨Nat.le_of_ble_eq_true rfl, Nat.le_of_ble_eq_true rfl⟩) hK hN (hZ.kept hS) hP zP_nil (va_recv (q := (RX2, TX2, 3)) hK (zPu_P (hZ.kept hS) hu_u0) (ci := 2) (q0 := 0) rfl rfl) rfl hl.1 rfl (Nat.le_of_ble_eq_true rfl) dX5_mostBy_6 ⟨Nat.le_of_ble_eq_true rfl, Nat.le_of_ble_eq_true rfl⟩ (fun r_1 hr_1 => ?_)
  obtain ⟨g_2, g_3⟩ := hr_1
  refine lv_istore (lv' := [(5, .int r_1), (0, .ref w0), (1, .ref u0), (2, .int 3), (3, .int d), (4, .int sec)]) hx hb dX5_mostBy_9 hl (by decide) rfl (fun ls hl => ?_)
  refine lv_iload hx hb dX5_mostBy_11 (lv_at hl 5 rfl) ?_
  refine lv_aload_n hx hb dX5_mostBy_13 rfl (lv_at hl 2 rfl) ?_
  refine va_get (D := D) (ci := 2) (v := .int ta) (C := RX2) (T := TX2) (N := 3) hx hb hts hi_X5_mostBy_2 hown hK (zPu_P (hZ.kept hS) hu_u0) 0 rfl rfl 2 (by decide) (hts (.fieldLink RX5 49 "TheLiningsInIt$Pull" "takes" "I") (List.mem_of_getElem? (i := 2) rfl)) (fun _ h9 => h9) rfl dX5_mostBy_14 ?_
  refine lv_isub hx hb dX5_mostBy_17 ?_
  refine lv_topi (fun x_4 ex_4 => ?_)
  refine lv_istore (lv' := [(6, .int x_4), (5, .int r_1), (0, .ref w0), (1, .ref u0), (2, .int 3), (3, .int d), (4, .int sec)]) hx hb dX5_mostBy_18 hl (by decide) rfl (fun ls hl => ?_)
  refine lv_iconst (v := 0) hx hb dX5_mostBy_20 (by decide) ?_
  refine lv_istore (lv' := [(7, .int 0), (6, .int x_4), (5, .int r_1), (0, .ref w0), (1, .ref u0), (2, .int 3), (3, .int d), (4, .int sec)]) hx hb dX5_mostBy_21 hl (by decide) rfl (fun ls hl => ?_)
  refine lv_iload hx hb dX5_mostBy_23 (lv_at hl 2 rfl) ?_
  refine lv_if_le (tgt := 50) hx hb dX5_mostBy_25 (by decide) (fun c_5 => ?_) (fun c_5 => ?_)
  · have fc_5 : r_1.toInt ≤ 0 := zf_le c_5 rfl (by decide)
    refine lv_iload hx hb dX5_mostBy_50 (lv_at hl 2 rfl) ?_
    refine lv_bipush (v := 12) hx hb dX5_mostBy_52 (by decide) ?_
    refine lv_icmp_ge (tgt := 86) hx hb dX5_mostBy_54 (by decide) (fun c_6 => ?_) (fun c_6 => ?_)
    · exfalso; have fc_6 : 12 ≤ r_1.toInt := zf_le c_6 (by decide) rfl; omega
    · have fc_6 : r_1.toInt < 12 := zf_nle c_6 (by decide) rfl
      refine lv_iload hx hb dX5_mostBy_57 (lv_at hl 0 rfl) ?_
      refine lv_bipush (v := 12) hx hb dX5_mostBy_59 (by decide) ?_
      refine lv_iload hx hb dX5_mostBy_61 (lv_at hl 2 rfl) ?_
      refine lv_isub hx hb dX5_mostBy_63 ?_
      refine lv_topi (fun x_7 ex_7 => ?_)
      have qx_7 : x_7.toInt = 12 - r_1.toInt := by rw [ex_7]; exact zf_sub (by decide) rfl (by omega) (by omega)
      refine lv_aload_n hx hb dX5_mostBy_64 rfl (lv_at hl 3 rfl) ?_
      refine lv_iload_n hx hb dX5_mostBy_65 rfl (lv_at hl 5 rfl) ?_
      refine lv_iconst (v := 1) hx hb dX5_mostBy_66 (by decide) ?_
      refine lv_isub hx hb dX5_mostBy_67 ?_
      refine lv_topi (fun y_8 ey_8 => ?_)
      obtain rfl : y_8 = 2 := ey_8.trans (by decide)
      refine lv_aload_n hx hb dX5_mostBy_68 rfl (lv_at hl 4 rfl) ?_
      refine lv_iload_n hx hb dX5_mostBy_69 rfl (lv_at hl 6 rfl) ?_
      refine lv_aload_n hx hb dX5_mostBy_70 rfl (lv_at hl 3 rfl) ?_
      refine va_get (D := D) (ci := 5) (v := .int wh) (C := RX5) (T := TX5) (N := 7) hx hb hts hi_X5_mostBy_5 hown hK hP 0 rfl rfl 5 (by decide) (hts (.fieldLink RX5 31 "TheLiningsInIt$Ways" "hurry" "I") (List.mem_of_getElem? (i := 1) rfl)) (fun _ h9 => h9) rfl dX5_mostBy_71 ?_
      refine zc_V (As := [.int d, .int wh]) (rest := [.int 2, .ref w0, .int x_7, .int 0]) ⟨hx, hb, hml, hown, hts⟩ (c_Pull_deeper l D cI cJ cZ cP cS po (d) (wh) u0 (ki) (a_) (ta) hu_u0 ⟨by omega, by omega, by omega, by omega⟩ hy9 hy10 hy4 hy5) (cwV 2 hts gX5_mostBy_X2_deeper rfl rfl rfl ⟨rfl, dh_X2_deeper⟩ ⟨Nat.le_of_ble_eq_true rfl, Nat.le_of_ble_eq_true rfl⟩) hK hN (hZ.kept hS) hP zP_nil (va_recv (q := (RX2, TX2, 3)) hK (zPu_P (hZ.kept hS) hu_u0) (ci := 2) (q0 := 0) rfl rfl) rfl hl.1 rfl (Nat.le_of_ble_eq_true rfl) dX5_mostBy_74 ⟨Nat.le_of_ble_eq_true rfl, Nat.le_of_ble_eq_true rfl⟩ (fun r_9 hr_9 => ?_)
      obtain ⟨g_10, g_11⟩ := hr_9
      refine lv_iload hx hb dX5_mostBy_77 (lv_at hl 1 rfl) ?_
      skip
      refine zw_V (As := [.int 2, .int r_9, .int x_4]) (rest := [.int x_7, .int 0]) (wr := []) ⟨hx, hb, hml, hown, hts⟩ (c_W_most_2 l D cI cJ cZ cP cS po w0 wk wl wc wp (wn) (wh) (wg) fp fk (r_9) (x_4) hy2 hy3 hy4 hy5 hy6 hy7 hwp (by omega) (by omega) H.size) (cwV 3 hts gX5_mostBy_X5_most rfl rfl rfl ⟨rfl, dh_X5_most⟩ ⟨Nat.le_of_ble_eq_true rfl, Nat.le_of_ble_eq_true rfl⟩) hK hN (hZ.kept hS) hP hD hS hA [0, 1, 2] [] rfl rfl (by decide) (by decide) (by decide) (va_recv (q := (RX5, TX5, 7)) hK hP (ci := 5) (q0 := 0) rfl rfl) rfl hl.1 rfl (Nat.le_of_ble_eq_true rfl) dX5_mostBy_79 ⟨Nat.le_of_ble_eq_true rfl, Nat.le_of_ble_eq_true rfl⟩ (fun r_12 u_13 H locs hr_12 hP hD hS => ?_)
      obtain ⟨q_14, rfl⟩ : ∃ z, z = u_13 := ⟨_, rfl⟩
      have h9R := zRe (ws' := [(w0, .inr (5, [.ref wk, .ref wl, .ref wc, .ref wp, .int wn, .int wh, .int wg])), (wk, .inl (cI, 125, .inl q_14)), (wp, .inl (cP, 8, .inr (.inr (.inr (.inr fp)))))]) hP hD rfl
      clear hP hD
      obtain ⟨hP, hD⟩ := h9R
      refine lv_imul hx hb dX5_mostBy_82 ?_
      refine lv_topi (fun x_15 ex_15 => ?_)
      refine lv_iadd hx hb dX5_mostBy_83 ?_
      refine lv_topi (fun x_16 ex_16 => ?_)
      have rbx_16 := zf_rng x_15
      have qx_16 : x_16.toInt = 0 + x_15.toInt := by rw [ex_16]; exact zf_add (by decide) rfl (by omega) (by omega)
      refine lv_istore (lv' := [(7, .int x_16), (6, .int x_4), (5, .int r_1), (0, .ref w0), (1, .ref u0), (2, .int 3), (3, .int d), (4, .int sec)]) hx hb dX5_mostBy_84 hl (by decide) rfl (fun ls hl => ?_)
      refine lv_iload hx hb dX5_mostBy_86 (lv_at hl 0 rfl) ?_
      exact W.iret (v := x_16) hx hb hr (fun t ht hW => ⟨⟨x_16, q_14, rfl, trivial, zRet ht hP hD [0, 1, 2] (by decide) rfl⟩, hS.F ht⟩) hS.2.2 dX5_mostBy_88
  · have fc_5 : 0 < r_1.toInt := zf_nle c_5 rfl (by decide)
    refine lv_iload hx hb dX5_mostBy_28 (lv_at hl 0 rfl) ?_
    refine lv_iload hx hb dX5_mostBy_30 (lv_at hl 2 rfl) ?_
    refine lv_aload_n hx hb dX5_mostBy_32 rfl (lv_at hl 3 rfl) ?_
    refine lv_iload_n hx hb dX5_mostBy_33 rfl (lv_at hl 5 rfl) ?_
    refine lv_iconst (v := 1) hx hb dX5_mostBy_34 (by decide) ?_
    refine lv_isub hx hb dX5_mostBy_35 ?_
    refine lv_topi (fun y_17 ey_17 => ?_)
    obtain rfl : y_17 = 2 := ey_17.trans (by decide)
    refine lv_aload_n hx hb dX5_mostBy_36 rfl (lv_at hl 4 rfl) ?_
    refine lv_iload_n hx hb dX5_mostBy_37 rfl (lv_at hl 6 rfl) ?_
    refine zc_V (As := [.int d]) (rest := [.int 2, .ref w0, .int r_1, .int 0]) ⟨hx, hb, hml, hown, hts⟩ (c_Pull_shallower l D cI cJ cZ cP cS po (d) u0 (ki) (a_) (ta) hu_u0 ⟨by omega, by omega, by omega, by omega⟩ hy9 hy10) (cwV 1 hts gX5_mostBy_X2_shallower rfl rfl rfl ⟨rfl, dh_X2_shallower⟩ ⟨Nat.le_of_ble_eq_true rfl, Nat.le_of_ble_eq_true rfl⟩) hK hN (hZ.kept hS) hP zP_nil (va_recv (q := (RX2, TX2, 3)) hK (zPu_P (hZ.kept hS) hu_u0) (ci := 2) (q0 := 0) rfl rfl) rfl hl.1 rfl (Nat.le_of_ble_eq_true rfl) dX5_mostBy_38 ⟨Nat.le_of_ble_eq_true rfl, Nat.le_of_ble_eq_true rfl⟩ (fun r_18 hr_18 => ?_)
    obtain ⟨g_19, g_20⟩ := hr_18
    refine lv_iload hx hb dX5_mostBy_41 (lv_at hl 1 rfl) ?_
    skip
    refine zw_V (As := [.int 2, .int r_18, .int x_4]) (rest := [.int r_1, .int 0]) (wr := []) ⟨hx, hb, hml, hown, hts⟩ (c_W_most_2 l D cI cJ cZ cP cS po w0 wk wl wc wp (wn) (wh) (wg) fp fk (r_18) (x_4) hy2 hy3 hy4 hy5 hy6 hy7 hwp (by omega) (by omega) H.size) (cwV 3 hts gX5_mostBy_X5_most rfl rfl rfl ⟨rfl, dh_X5_most⟩ ⟨Nat.le_of_ble_eq_true rfl, Nat.le_of_ble_eq_true rfl⟩) hK hN (hZ.kept hS) hP hD hS hA [0, 1, 2] [] rfl rfl (by decide) (by decide) (by decide) (va_recv (q := (RX5, TX5, 7)) hK hP (ci := 5) (q0 := 0) rfl rfl) rfl hl.1 rfl (Nat.le_of_ble_eq_true rfl) dX5_mostBy_43 ⟨Nat.le_of_ble_eq_true rfl, Nat.le_of_ble_eq_true rfl⟩ (fun r_21 u_22 H locs hr_21 hP hD hS => ?_)
    obtain ⟨q_23, rfl⟩ : ∃ z, z = u_22 := ⟨_, rfl⟩
    have h9R := zRe (ws' := [(w0, .inr (5, [.ref wk, .ref wl, .ref wc, .ref wp, .int wn, .int wh, .int wg])), (wk, .inl (cI, 125, .inl q_23)), (wp, .inl (cP, 8, .inr (.inr (.inr (.inr fp)))))]) hP hD rfl
    clear hP hD
    obtain ⟨hP, hD⟩ := h9R
    refine lv_imul hx hb dX5_mostBy_46 ?_
    refine lv_topi (fun x_24 ex_24 => ?_)
    refine lv_iadd hx hb dX5_mostBy_47 ?_
    refine lv_topi (fun x_25 ex_25 => ?_)
    have rbx_25 := zf_rng x_24
    have qx_25 : x_25.toInt = 0 + x_24.toInt := by rw [ex_25]; exact zf_add (by decide) rfl (by omega) (by omega)
    refine lv_istore (lv' := [(7, .int x_25), (6, .int x_4), (5, .int r_1), (0, .ref w0), (1, .ref u0), (2, .int 3), (3, .int d), (4, .int sec)]) hx hb dX5_mostBy_48 hl (by decide) rfl (fun ls hl => ?_)
    refine lv_iload hx hb dX5_mostBy_50 (lv_at hl 2 rfl) ?_
    refine lv_bipush (v := 12) hx hb dX5_mostBy_52 (by decide) ?_
    refine lv_icmp_ge (tgt := 86) hx hb dX5_mostBy_54 (by decide) (fun c_26 => ?_) (fun c_26 => ?_)
    · have fc_26 : 12 ≤ r_1.toInt := zf_le c_26 (by decide) rfl
      refine lv_iload hx hb dX5_mostBy_86 (lv_at hl 0 rfl) ?_
      exact W.iret (v := x_25) hx hb hr (fun t ht hW => ⟨⟨x_25, q_23, rfl, trivial, zRet ht hP hD [0, 1, 2] (by decide) rfl⟩, hS.F ht⟩) hS.2.2 dX5_mostBy_88
    · have fc_26 : r_1.toInt < 12 := zf_nle c_26 (by decide) rfl
      refine lv_iload hx hb dX5_mostBy_57 (lv_at hl 0 rfl) ?_
      refine lv_bipush (v := 12) hx hb dX5_mostBy_59 (by decide) ?_
      refine lv_iload hx hb dX5_mostBy_61 (lv_at hl 2 rfl) ?_
      refine lv_isub hx hb dX5_mostBy_63 ?_
      refine lv_topi (fun x_27 ex_27 => ?_)
      have qx_27 : x_27.toInt = 12 - r_1.toInt := by rw [ex_27]; exact zf_sub (by decide) rfl (by omega) (by omega)
      refine lv_aload_n hx hb dX5_mostBy_64 rfl (lv_at hl 3 rfl) ?_
      refine lv_iload_n hx hb dX5_mostBy_65 rfl (lv_at hl 5 rfl) ?_
      refine lv_iconst (v := 1) hx hb dX5_mostBy_66 (by decide) ?_
      refine lv_isub hx hb dX5_mostBy_67 ?_
      refine lv_topi (fun y_28 ey_28 => ?_)
      obtain rfl : y_28 = 2 := ey_28.trans (by decide)
      refine lv_aload_n hx hb dX5_mostBy_68 rfl (lv_at hl 4 rfl) ?_
      refine lv_iload_n hx hb dX5_mostBy_69 rfl (lv_at hl 6 rfl) ?_
      refine lv_aload_n hx hb dX5_mostBy_70 rfl (lv_at hl 3 rfl) ?_
      refine va_get (D := D) (ci := 5) (v := .int wh) (C := RX5) (T := TX5) (N := 7) hx hb hts hi_X5_mostBy_5 hown hK hP 0 rfl rfl 5 (by decide) (hts (.fieldLink RX5 31 "TheLiningsInIt$Ways" "hurry" "I") (List.mem_of_getElem? (i := 1) rfl)) (fun _ h9 => h9) rfl dX5_mostBy_71 ?_
      refine zc_V (As := [.int d, .int wh]) (rest := [.int 2, .ref w0, .int x_27, .int x_25]) ⟨hx, hb, hml, hown, hts⟩ (c_Pull_deeper l D cI cJ cZ cP cS po (d) (wh) u0 (ki) (a_) (ta) hu_u0 ⟨by omega, by omega, by omega, by omega⟩ hy9 hy10 hy4 hy5) (cwV 2 hts gX5_mostBy_X2_deeper rfl rfl rfl ⟨rfl, dh_X2_deeper⟩ ⟨Nat.le_of_ble_eq_true rfl, Nat.le_of_ble_eq_true rfl⟩) hK hN (hZ.kept hS) hP zP_nil (va_recv (q := (RX2, TX2, 3)) hK (zPu_P (hZ.kept hS) hu_u0) (ci := 2) (q0 := 0) rfl rfl) rfl hl.1 rfl (Nat.le_of_ble_eq_true rfl) dX5_mostBy_74 ⟨Nat.le_of_ble_eq_true rfl, Nat.le_of_ble_eq_true rfl⟩ (fun r_29 hr_29 => ?_)
      obtain ⟨g_30, g_31⟩ := hr_29
      refine lv_iload hx hb dX5_mostBy_77 (lv_at hl 1 rfl) ?_
      skip
      refine zw_V (As := [.int 2, .int r_29, .int x_4]) (rest := [.int x_27, .int x_25]) (wr := []) ⟨hx, hb, hml, hown, hts⟩ (c_W_most_2 l D cI cJ cZ cP cS po w0 wk wl wc wp (wn) (wh) (wg) fp q_23 (r_29) (x_4) hy2 hy3 hy4 hy5 hy6 hy7 hwp (by omega) (by omega) H.size) (cwV 3 hts gX5_mostBy_X5_most rfl rfl rfl ⟨rfl, dh_X5_most⟩ ⟨Nat.le_of_ble_eq_true rfl, Nat.le_of_ble_eq_true rfl⟩) hK hN (hZ.kept hS) hP hD hS hA [0, 1, 2] [] rfl rfl (by decide) (by decide) (by decide) (va_recv (q := (RX5, TX5, 7)) hK hP (ci := 5) (q0 := 0) rfl rfl) rfl hl.1 rfl (Nat.le_of_ble_eq_true rfl) dX5_mostBy_79 ⟨Nat.le_of_ble_eq_true rfl, Nat.le_of_ble_eq_true rfl⟩ (fun r_32 u_33 H locs hr_32 hP hD hS => ?_)
      obtain ⟨q_34, rfl⟩ : ∃ z, z = u_33 := ⟨_, rfl⟩
      have h9R := zRe (ws' := [(w0, .inr (5, [.ref wk, .ref wl, .ref wc, .ref wp, .int wn, .int wh, .int wg])), (wk, .inl (cI, 125, .inl q_34)), (wp, .inl (cP, 8, .inr (.inr (.inr (.inr fp)))))]) hP hD rfl
      clear hP hD
      obtain ⟨hP, hD⟩ := h9R
      refine lv_imul hx hb dX5_mostBy_82 ?_
      refine lv_topi (fun x_35 ex_35 => ?_)
      refine lv_iadd hx hb dX5_mostBy_83 ?_
      refine lv_topi (fun x_36 ex_36 => ?_)
      refine lv_istore (lv' := [(7, .int x_36), (6, .int x_4), (5, .int r_1), (0, .ref w0), (1, .ref u0), (2, .int 3), (3, .int d), (4, .int sec)]) hx hb dX5_mostBy_84 hl (by decide) rfl (fun ls hl => ?_)
      refine lv_iload hx hb dX5_mostBy_86 (lv_at hl 0 rfl) ?_
      exact W.iret (v := x_36) hx hb hr (fun t ht hW => ⟨⟨x_36, q_34, rfl, trivial, zRet ht hP hD [0, 1, 2] (by decide) rfl⟩, hS.F ht⟩) hS.2.2 dX5_mostBy_88
set_option maxHeartbeats 4000000 in
set_option maxRecDepth 100000 in
theorem c_W_most_3 (l : Launch) (D : va_G) (cI cJ cZ cP cS : ClassId) (po : zPool) (w0 wk wl wc wp : Nat) (wn wh wg : Int32) (fp : Nat → Option Nat) (fk : Nat → Int32) (d sec : Int32) (hy0 : 0 ≤ wn.toInt) (hy1 : wn.toInt ≤ 8) (hy2 : 0 ≤ wh.toInt) (hy3 : wh.toInt ≤ 9) (hy4 : 0 ≤ wg.toInt) (hy5 : wg.toInt ≤ 60) (hwp : zWP po fp) (hy7 : 0 ≤ d.toInt) (hy8 : d.toInt ≤ 24) (hpz : Nat) : Met l yX5_most wsX5_most ({ frames := 7, cells := 0, slots := 0, locals := 181 }) (va_Pc [.ref w0, .int 3, .int d, .int sec] (zW D (zKT cI cJ cZ cP cS) po [(w0, .inr (5, [.ref wk, .ref wl, .ref wc, .ref wp, .int wn, .int wh, .int wg])), (wk, .inl (cI, 125, .inl fk)), (wp, .inl (cP, 8, .inr (.inr (.inr (.inr fp)))))] hpz)) (va_Qi (fun (r : Int32) (fk2 : (Nat → Int32)) => True) (zB D [(w0, .inr (5, [.ref wk, .ref wl, .ref wc, .ref wp, .int wn, .int wh, .int wg])), (wk, .inl (cI, 125, .inl fk)), (wp, .inl (cP, 8, .inr (.inr (.inr (.inr fp)))))] hpz (fun (fk2 : Nat → Int32) => [(w0, .inr (5, [.ref wk, .ref wl, .ref wc, .ref wp, .int wn, .int wh, .int wg])), (wk, .inl (cI, 125, .inl fk2)), (wp, .inl (cP, 8, .inr (.inr (.inr (.inr fp)))))])) (va_A [(w0, .inr (5, [.ref wk, .ref wl, .ref wc, .ref wp, .int wn, .int wh, .int wg])), (wk, .inl (cI, 125, .inl fk)), (wp, .inl (cP, 8, .inr (.inr (.inr (.inr fp)))))] hpz)) 0 0 (va_A [(w0, .inr (5, [.ref wk, .ref wl, .ref wc, .ref wp, .int wn, .int wh, .int wg])), (wk, .inl (cI, 125, .inl fk)), (wp, .inl (cP, 8, .inr (.inr (.inr (.inr fp)))))] hpz) := by
  refine Met.ofW (cc := cX5_most) (maxL := 9) (ret := (some .int)) (by decide) rfl ?_
  intro p e s m args below meth c s₁ B hml hv
  obtain ⟨rfl, hsz, hP, hK, hD0, hN, hZ⟩ := hv
  have hx := B.exec
  have hb := B.bytes
  have hr := B.returns
  have hts := atoms_spec (ws := wsX5_most) B.pre
  have hown : s.vm.findClass RX5 = some m.cls := findClass_of_methodNamed B.named
  have hlocks := B.notSynchronized
  subst hsz
  have hD := hD0.self (sz := s.heap.size)
  have hA := zA_of hD
  have hl := lv_entry ([.ref w0, .int 3, .int d, .int sec]) (n := 9) (Nat.le_of_ble_eq_true rfl)
  rw [lg_entry_eq]
  generalize (lg_sl ([.ref w0, .int 3, .int d, .int sec]) ++ List.replicate (9 - (lg_sl ([.ref w0, .int 3, .int d, .int sec])).length) Slot.unset).toArray = ls at hl ⊢
  replace hl : lv_has ls 9 [(0, .ref w0), (1, .int 3), (2, .int d), (3, .int sec)] := hl
  refine zw_begin hP hD (fun H locs hP1 hS => ?_)
  clear hP
  have hP := hP1
  clear hP1
  refine lv_iload_n hx hb dX5_most_0 rfl (lv_at hl 1 rfl) ?_
  refine lv_if_lt (tgt := 19) hx hb dX5_most_1 (by decide) (fun c_1 => ?_) (fun c_1 => ?_)
  · exact absurd c_1 (by decide)
  · refine lv_iload_n hx hb dX5_most_4 rfl (lv_at hl 1 rfl) ?_
    refine lv_iconst (v := 4) hx hb dX5_most_5 (by decide) ?_
    refine lv_icmp_gt (tgt := 19) hx hb dX5_most_6 (by decide) (fun c_2 => ?_) (fun c_2 => ?_)
    · exact absurd c_2 (by decide)
    · refine lv_iload_n hx hb dX5_most_9 rfl (lv_at hl 2 rfl) ?_
      refine lv_if_lt (tgt := 19) hx hb dX5_most_10 (by decide) (fun c_3 => ?_) (fun c_3 => ?_)
      · exfalso; have fc_3 : d.toInt < 0 := zf_lt c_3 rfl (by decide); omega
      · have fc_3 : 0 ≤ d.toInt := zf_nlt c_3 rfl (by decide)
        refine lv_iload_n hx hb dX5_most_13 rfl (lv_at hl 2 rfl) ?_
        refine lv_bipush (v := 24) hx hb dX5_most_14 (by decide) ?_
        refine lv_icmp_le (tgt := 21) hx hb dX5_most_16 (by decide) (fun c_4 => ?_) (fun c_4 => ?_)
        · have fc_4 : d.toInt ≤ 24 := zf_le c_4 rfl (by decide)
          refine lv_iload_n hx hb dX5_most_21 rfl (lv_at hl 2 rfl) ?_
          refine lv_if_eq (tgt := 29) hx hb dX5_most_22 (by decide) (fun c_5 => ?_) (fun c_5 => ?_)
          · have fc_5 : d.toInt = 0 := zf_eq c_5 rfl (by decide)
            refine lv_iload_n hx hb dX5_most_29 rfl (lv_at hl 2 rfl) ?_
            refine lv_if_ne (tgt := 41) hx hb dX5_most_30 (by decide) (fun c_6 => ?_) (fun c_6 => ?_)
            · exfalso; have fc_6 : d.toInt ≠ 0 := zf_ne c_6 rfl (by decide); omega
            · have fc_6 : d.toInt = 0 := zf_eq c_6 rfl (by decide)
              obtain ⟨t_7, zt_7, yt_7⟩ := hZ.1.1
              refine va_gets hx hb zt_7 hS hown (hts (.fieldLink RX5 79 "TheLiningsInIt$Ways" "POWERS" "[I") (List.mem_of_getElem? (i := 1) rfl)) (fun _ h9 => h9) dX5_most_33 ?_
              refine lv_iload_n hx hb dX5_most_36 rfl (lv_at hl 1 rfl) ?_
              refine va_ti hx hb yt_7 hS (zf_in (by decide) (by decide)) (v := .int 1728) (by decide) dX5_most_37 ?_
              refine lv_goto (tgt := 42) hx hb dX5_most_38 (by decide) ?_
              exact W.iret (v := 1728) hx hb hr (fun t ht hW => ⟨⟨1728, fk, rfl, trivial, zRet ht hP hD [0, 1, 2] (by decide) rfl⟩, hS.F ht⟩) hS.2.2 dX5_most_42
          · have fc_5 : d.toInt ≠ 0 := zf_ne c_5 rfl (by decide)
            refine lv_iload_n hx hb dX5_most_25 rfl (lv_at hl 1 rfl) ?_
            refine lv_if_ne (tgt := 43) hx hb dX5_most_26 (by decide) (fun c_8 => ?_) (fun c_8 => ?_)
            · refine lv_iload_n hx hb dX5_most_43 rfl (lv_at hl 3 rfl) ?_
              refine lv_iload_n hx hb dX5_most_44 rfl (lv_at hl 1 rfl) ?_
              refine lv_aload_n hx hb dX5_most_45 rfl (lv_at hl 0 rfl) ?_
              refine va_get (D := D) (ci := 5) (v := .int wg) (C := RX5) (T := TX5) (N := 7) hx hb hts hi_X5_most_5 hown hK hP 0 rfl rfl 6 (by decide) (hts (.fieldLink RX5 34 "TheLiningsInIt$Ways" "longest" "I") (List.mem_of_getElem? (i := 2) rfl)) (fun _ h9 => h9) rfl dX5_most_46 ?_
              refine lv_imul hx hb dX5_most_49 ?_
              refine lv_topi (fun x_9 ex_9 => ?_)
              have qx_9 : x_9.toInt = 3 * wg.toInt := by rw [ex_9]; exact zf_mul (by decide) rfl (by omega) (by omega)
              refine lv_icmp_lt (tgt := 57) hx hb dX5_most_50 (by decide) (fun c_10 => ?_) (fun c_10 => ?_)
              · have fc_10 : sec.toInt < x_9.toInt := zf_lt c_10 rfl rfl
                refine lv_iconst (v := 0) hx hb dX5_most_57 (by decide) ?_
                refine lv_istore (lv' := [(4, .int 0), (0, .ref w0), (1, .int 3), (2, .int d), (3, .int sec)]) hx hb dX5_most_58 hl (by decide) rfl (fun ls hl => ?_)
                refine lv_iload_n hx hb dX5_most_60 rfl (lv_at hl 2 rfl) ?_
                refine lv_bipush (v := 25) hx hb dX5_most_61 (by decide) ?_
                refine lv_imul hx hb dX5_most_63 ?_
                refine lv_topi (fun y_11 ey_11 => ?_)
                obtain rfl : y_11 = 75 := ey_11.trans (by decide)
                refine lv_iload_n hx hb dX5_most_64 rfl (lv_at hl 3 rfl) ?_
                refine lv_iadd hx hb dX5_most_65 ?_
                refine lv_topi (fun x_12 ex_12 => ?_)
                have qx_12 : x_12.toInt = 75 + d.toInt := by rw [ex_12]; exact zf_add (by decide) rfl (by omega) (by omega)
                refine lv_istore (lv' := [(5, .int x_12), (4, .int 0), (0, .ref w0), (1, .int 3), (2, .int d), (3, .int sec)]) hx hb dX5_most_66 hl (by decide) rfl (fun ls hl => ?_)
                refine lv_iload hx hb dX5_most_68 (lv_at hl 1 rfl) ?_
                refine lv_if_eq (tgt := 92) hx hb dX5_most_70 (by decide) (fun c_13 => ?_) (fun c_13 => ?_)
                · refine lv_iconst (v := 0) hx hb dX5_most_92 (by decide) ?_
                  refine lv_istore (lv' := [(6, .int 0), (5, .int x_12), (4, .int 0), (0, .ref w0), (1, .int 3), (2, .int d), (3, .int sec)]) hx hb dX5_most_93 hl (by decide) rfl (fun ls hl => ?_)
                  refine lv_iconst (v := 0) hx hb dX5_most_95 (by decide) ?_
                  refine lv_istore (lv' := [(7, .int 0), (6, .int 0), (5, .int x_12), (4, .int 0), (0, .ref w0), (1, .int 3), (2, .int d), (3, .int sec)]) hx hb dX5_most_96 hl (by decide) rfl (fun ls hl => ?_)
                  obtain ⟨i_98, hi_98⟩ : ∃ i : Int32, i = 0 := ⟨_, rfl⟩
                  replace hl : lv_has ls 9 [(7, .int i_98), (6, .int 0), (5, .int x_12), (4, .int 0), (0, .ref w0), (1, .int 3), (2, .int d), (3, .int sec)] := by rw [hi_98]; exact lv_sub hl [0, 1, 2, 3, 4, 5, 6, 7] rfl
                  have h1i_98 : i_98.toInt = 0 := by rw [hi_98]; decide
                  obtain ⟨nfu, hni_98⟩ : ∃ nq9 : Nat, wn.toInt ≤ i_98.toInt + (nq9 : Int) := ⟨((wn.toInt : Int) - 0).toNat, by omega⟩
                  have hloi_98 : 0 ≤ i_98.toInt := by omega
                  obtain ⟨g_14, hg_14⟩ : ∃ g : Nat → Int32, g = fk := ⟨_, rfl⟩
                  replace hP : va_P D vwCl [(w0, .inr (5, [.ref wk, .ref wl, .ref wc, .ref wp, .int wn, .int wh, .int wg])), (wk, .inl (cI, 125, .inl g_14)), (wp, .inl (cP, 8, .inr (.inr (.inr (.inr fp)))))] H := by rw [hg_14]; exact hP
                  replace hD : va_D (va_A [(w0, .inr (5, [.ref wk, .ref wl, .ref wc, .ref wp, .int wn, .int wh, .int wg])), (wk, .inl (cI, 125, .inl fk)), (wp, .inl (cP, 8, .inr (.inr (.inr (.inr fp)))))] s.heap.size) [(w0, .inr (5, [.ref wk, .ref wl, .ref wc, .ref wp, .int wn, .int wh, .int wg])), (wk, .inl (cI, 125, .inl g_14)), (wp, .inl (cP, 8, .inr (.inr (.inr (.inr fp)))))] := by rw [hg_14]; exact hD
                  obtain ⟨v_15, hv_15⟩ : ∃ g : Int32, g = 0 := ⟨_, rfl⟩
                  replace hl : lv_has ls 9 [(7, .int i_98), (6, .int v_15), (5, .int x_12), (4, .int 0), (0, .ref w0), (1, .int 3), (2, .int d), (3, .int sec)] := by rw [hv_15]; exact hl
                  clear h1i_98 hi_98 hg_14 hv_15
                  skip
                  revert hni_98
                  revert hloi_98
                  revert hl
                  revert hS
                  revert hD
                  revert hP
                  revert ls
                  revert locs
                  revert H
                  revert g_14
                  revert v_15
                  revert i_98
                  induction nfu with
                  | zero =>
                    intro i_98 v_15 g_14 H locs ls hP hD hS hl hloi_98 hni_98
                    have hzi_98 : wn.toInt ≤ i_98.toInt := by omega
                    refine lv_iload hx hb dX5_most_98 (lv_at hl 0 rfl) ?_
                    refine lv_aload_n hx hb dX5_most_100 rfl (lv_at hl 4 rfl) ?_
                    refine va_get (D := D) (ci := 5) (v := .int wn) (C := RX5) (T := TX5) (N := 7) hx hb hts hi_X5_most_5 hown hK hP 0 rfl rfl 4 (by decide) (hts (.fieldLink RX5 27 "TheLiningsInIt$Ways" "count" "I") (List.mem_of_getElem? (i := 4) rfl)) (fun _ h9 => h9) rfl dX5_most_101 ?_
                    refine lv_icmp_ge (tgt := 144) hx hb dX5_most_104 (by decide) (fun c_16 => ?_) (fun c_16 => ?_)
                    · have fc_16 : wn.toInt ≤ i_98.toInt := zf_le c_16 rfl rfl
                      refine lv_iload hx hb dX5_most_144 (lv_at hl 3 rfl) ?_
                      refine lv_if_eq (tgt := 158) hx hb dX5_most_146 (by decide) (fun c_17 => ?_) (fun c_17 => ?_)
                      · refine lv_iload hx hb dX5_most_158 (lv_at hl 1 rfl) ?_
                        exact W.iret (v := v_15) hx hb hr (fun t ht hW => ⟨⟨v_15, g_14, rfl, trivial, zRet ht hP hD [0, 1, 2] (by decide) rfl⟩, hS.F ht⟩) hS.2.2 dX5_most_160
                      · exact absurd c_17 (by decide)
                    · exfalso; have fc_16 : i_98.toInt < wn.toInt := zf_nle c_16 rfl rfl; omega
                  | succ nfu ih =>
                    intro i_98 v_15 g_14 H locs ls hP hD hS hl hloi_98 hni_98
                    refine lv_iload hx hb dX5_most_98 (lv_at hl 0 rfl) ?_
                    refine lv_aload_n hx hb dX5_most_100 rfl (lv_at hl 4 rfl) ?_
                    refine va_get (D := D) (ci := 5) (v := .int wn) (C := RX5) (T := TX5) (N := 7) hx hb hts hi_X5_most_5 hown hK hP 0 rfl rfl 4 (by decide) (hts (.fieldLink RX5 27 "TheLiningsInIt$Ways" "count" "I") (List.mem_of_getElem? (i := 4) rfl)) (fun _ h9 => h9) rfl dX5_most_101 ?_
                    refine lv_icmp_ge (tgt := 144) hx hb dX5_most_104 (by decide) (fun c_18 => ?_) (fun c_18 => ?_)
                    · have fc_18 : wn.toInt ≤ i_98.toInt := zf_le c_18 rfl rfl
                      refine lv_iload hx hb dX5_most_144 (lv_at hl 3 rfl) ?_
                      refine lv_if_eq (tgt := 158) hx hb dX5_most_146 (by decide) (fun c_19 => ?_) (fun c_19 => ?_)
                      · refine lv_iload hx hb dX5_most_158 (lv_at hl 1 rfl) ?_
                        exact W.iret (v := v_15) hx hb hr (fun t ht hW => ⟨⟨v_15, g_14, rfl, trivial, zRet ht hP hD [0, 1, 2] (by decide) rfl⟩, hS.F ht⟩) hS.2.2 dX5_most_160
                      · exact absurd c_19 (by decide)
                    · have fc_18 : i_98.toInt < wn.toInt := zf_nle c_18 rfl rfl
                      refine lv_aload_n hx hb dX5_most_107 rfl (lv_at hl 4 rfl) ?_
                      refine lv_iload hx hb dX5_most_108 (lv_at hl 0 rfl) ?_
                      refine lv_iload_n hx hb dX5_most_110 rfl (lv_at hl 6 rfl) ?_
                      refine lv_iload_n hx hb dX5_most_111 rfl (lv_at hl 7 rfl) ?_
                      refine zc_Vq (As := [.int i_98, .int d, .int sec]) (rest := []) ⟨hx, hb, hml, hown, hts⟩ (c_W_mayBeAt l D cI cJ cZ cP cS po w0 wk wl wc wp (wn) (wh) (wg) fp (i_98) (d) (sec) hy0 hy1 hy2 hy3 hy4 hy5 hwp) (cwV 3 hts gX5_most_X5_mayBeAt rfl rfl rfl ⟨rfl, dh_X5_mayBeAt⟩ ⟨Nat.le_of_ble_eq_true rfl, Nat.le_of_ble_eq_true rfl⟩) hK hN (hZ.kept hS) hP (hP.sub [0, 2] rfl) (va_recv (q := (RX5, TX5, 7)) hK hP (ci := 5) (q0 := 0) rfl rfl) rfl hl.1 rfl (Nat.le_of_ble_eq_true rfl) dX5_most_112 ⟨Nat.le_of_ble_eq_true rfl, Nat.le_of_ble_eq_true rfl⟩ (fun r_20 hr_20 => ?_)
                      rcases hr_20 with ⟨rfl, g_21⟩ | ⟨rfl, g_22, g_23⟩ | ⟨rfl, g_24, g_25⟩ | ⟨rfl, g_26, g_27, g_28⟩ | ⟨rfl, g_29, g_30, g_31⟩ | ⟨⟨u_35, kiu_35, au_35, tu_35, rfl, huu_35⟩, g_32, g_33, g_34⟩
                      · exfalso; omega
                      · exfalso; omega
                      · refine lv_astoreN (lv' := [(8, .null), (7, .int i_98), (6, .int v_15), (5, .int x_12), (4, .int 0), (0, .ref w0), (1, .int 3), (2, .int d), (3, .int sec)]) hx hb dX5_most_115 hl (by decide) rfl (fun ls hl => ?_)
                        refine lv_aloadN hx hb dX5_most_117 (lv_at hl 0 rfl) ?_
                        refine lv_ifnullN (tgt := 138) hx hb dX5_most_119 (by decide) ?_
                        obtain ⟨x_36, ex_36⟩ : ∃ y : Int32, y = i_98 + 1 := ⟨_, rfl⟩
                        have qx_36 : x_36.toInt = i_98.toInt + 1 := dw_inc ex_36 fc_18
                        refine lv_iinc (v := x_36) (lv' := [(7, .int x_36), (8, .null), (6, .int v_15), (5, .int x_12), (4, .int 0), (0, .ref w0), (1, .int 3), (2, .int d), (3, .int sec)]) hx hb dX5_most_138 hl (k := 1) rfl ex_36.symm (by decide) rfl (fun ls hl => ?_)
                        refine lv_goto (tgt := 98) hx hb dX5_most_141 (by decide) ?_
                        exact ih x_36 v_15 (g_14) _ _ _ (hP.sub [0, 1, 2] rfl) (hD.sub [0, 1, 2] (by decide) rfl) hS (lv_sub hl [0, 2, 3, 4, 5, 6, 7, 8] rfl) (dw_lo hloi_98 qx_36) (dw_hn hni_98 qx_36)
                      · exfalso; omega
                      · refine lv_astoreN (lv' := [(8, .null), (7, .int i_98), (6, .int v_15), (5, .int x_12), (4, .int 0), (0, .ref w0), (1, .int 3), (2, .int d), (3, .int sec)]) hx hb dX5_most_115 hl (by decide) rfl (fun ls hl => ?_)
                        refine lv_aloadN hx hb dX5_most_117 (lv_at hl 0 rfl) ?_
                        refine lv_ifnullN (tgt := 138) hx hb dX5_most_119 (by decide) ?_
                        obtain ⟨x_37, ex_37⟩ : ∃ y : Int32, y = i_98 + 1 := ⟨_, rfl⟩
                        have qx_37 : x_37.toInt = i_98.toInt + 1 := dw_inc ex_37 fc_18
                        refine lv_iinc (v := x_37) (lv' := [(7, .int x_37), (8, .null), (6, .int v_15), (5, .int x_12), (4, .int 0), (0, .ref w0), (1, .int 3), (2, .int d), (3, .int sec)]) hx hb dX5_most_138 hl (k := 1) rfl ex_37.symm (by decide) rfl (fun ls hl => ?_)
                        refine lv_goto (tgt := 98) hx hb dX5_most_141 (by decide) ?_
                        exact ih x_37 v_15 (g_14) _ _ _ (hP.sub [0, 1, 2] rfl) (hD.sub [0, 1, 2] (by decide) rfl) hS (lv_sub hl [0, 2, 3, 4, 5, 6, 7, 8] rfl) (dw_lo hloi_98 qx_37) (dw_hn hni_98 qx_37)
                      · refine W.eq (g2 := F0 m 115 ls (.ref u_35 :: [])) rfl ?_
                        obtain ⟨hku_35, hau_35, htu_35⟩ := zPu_pr (hZ.kept hS) huu_35
                        refine lv_astore (lv' := [(8, .ref u_35), (7, .int i_98), (6, .int v_15), (5, .int x_12), (4, .int 0), (0, .ref w0), (1, .int 3), (2, .int d), (3, .int sec)]) hx hb dX5_most_115 hl (by decide) rfl (fun ls hl => ?_)
                        refine lv_aload hx hb dX5_most_117 (lv_at hl 0 rfl) ?_
                        refine lv_ifnull hx hb dX5_most_119 ?_
                        refine lv_iload hx hb dX5_most_122 (lv_at hl 2 rfl) ?_
                        refine lv_aload_n hx hb dX5_most_124 rfl (lv_at hl 5 rfl) ?_
                        refine lv_aload hx hb dX5_most_125 (lv_at hl 0 rfl) ?_
                        refine lv_iload_n hx hb dX5_most_127 rfl (lv_at hl 6 rfl) ?_
                        refine lv_iload_n hx hb dX5_most_128 rfl (lv_at hl 7 rfl) ?_
                        refine lv_iload_n hx hb dX5_most_129 rfl (lv_at hl 8 rfl) ?_
                        skip
                        refine zw_V (As := [.ref u_35, .int 3, .int d, .int sec]) (rest := [.int v_15]) (wr := []) ⟨hx, hb, hml, hown, hts⟩ (c_W_mostBy_3 l D cI cJ cZ cP cS po w0 wk wl wc wp (wn) (wh) (wg) fp g_14 (d) (sec) u_35 (kiu_35) (au_35) (tu_35) huu_35 ⟨by omega, by omega, by omega, by omega⟩ hy0 hy1 hy2 hy3 hy4 hy5 hwp hy7 hy8 H.size) (cwV 4 hts gX5_most_X5_mostBy rfl rfl rfl ⟨rfl, dh_X5_mostBy⟩ ⟨Nat.le_of_ble_eq_true rfl, Nat.le_of_ble_eq_true rfl⟩) hK hN (hZ.kept hS) hP hD hS hA [0, 1, 2] [] rfl rfl (by decide) (by decide) (by decide) (va_recv (q := (RX5, TX5, 7)) hK hP (ci := 5) (q0 := 0) rfl rfl) rfl hl.1 rfl (Nat.le_of_ble_eq_true rfl) dX5_most_130 ⟨Nat.le_of_ble_eq_true rfl, Nat.le_of_ble_eq_true rfl⟩ (fun r_38 u_39 H locs hr_38 hP hD hS => ?_)
                        obtain ⟨q_40, rfl⟩ : ∃ z, z = u_39 := ⟨_, rfl⟩
                        have h9R := zRe (ws' := [(w0, .inr (5, [.ref wk, .ref wl, .ref wc, .ref wp, .int wn, .int wh, .int wg])), (wk, .inl (cI, 125, .inl q_40)), (wp, .inl (cP, 8, .inr (.inr (.inr (.inr fp)))))]) hP hD rfl
                        clear hP hD
                        obtain ⟨hP, hD⟩ := h9R
                        refine va_mmax hx hb (hml.trans hl.1.symm) hown (hts (.methodLink RX5 52 Lib.Math.max.name) (List.mem_of_getElem? (i := 5) rfl)) (hts _ (List.mem_of_getElem? (i := 6) rfl)) (hts _ (List.mem_of_getElem? (i := 7) rfl)) (hts _ (List.mem_of_getElem? (i := 8) rfl)) (Nat.le_of_ble_eq_true rfl) (Nat.le_of_ble_eq_true rfl) (Nat.le_of_ble_eq_true rfl) (Nat.le_of_ble_eq_true rfl) dX5_most_133 ?_
                        refine lv_topi (fun x_41 ex_41 => ?_)
                        have qx_41 := zf_max ex_41 (x1 := v_15.toInt) (y1 := r_38.toInt) rfl rfl
                        refine lv_istore (lv' := [(6, .int x_41), (8, .ref u_35), (7, .int i_98), (5, .int x_12), (4, .int 0), (0, .ref w0), (1, .int 3), (2, .int d), (3, .int sec)]) hx hb dX5_most_136 hl (by decide) rfl (fun ls hl => ?_)
                        obtain ⟨x_42, ex_42⟩ : ∃ y : Int32, y = i_98 + 1 := ⟨_, rfl⟩
                        have qx_42 : x_42.toInt = i_98.toInt + 1 := dw_inc ex_42 fc_18
                        refine lv_iinc (v := x_42) (lv' := [(7, .int x_42), (6, .int x_41), (8, .ref u_35), (5, .int x_12), (4, .int 0), (0, .ref w0), (1, .int 3), (2, .int d), (3, .int sec)]) hx hb dX5_most_138 hl (k := 2) rfl ex_42.symm (by decide) rfl (fun ls hl => ?_)
                        refine lv_goto (tgt := 98) hx hb dX5_most_141 (by decide) ?_
                        exact ih x_42 x_41 (q_40) _ _ _ (hP.sub [0, 1, 2] rfl) (hD.sub [0, 1, 2] (by decide) rfl) hS (lv_sub hl [0, 1, 3, 4, 5, 6, 7, 8] rfl) (dw_lo hloi_98 qx_42) (dw_hn hni_98 qx_42)
                · exact absurd c_13 (by decide)
              · have fc_10 : x_9.toInt ≤ sec.toInt := zf_nlt c_10 rfl rfl
                refine lv_iconst (v := 1) hx hb dX5_most_53 (by decide) ?_
                refine lv_goto (tgt := 58) hx hb dX5_most_54 (by decide) ?_
                refine lv_istore (lv' := [(4, .int 1), (0, .ref w0), (1, .int 3), (2, .int d), (3, .int sec)]) hx hb dX5_most_58 hl (by decide) rfl (fun ls hl => ?_)
                refine lv_iload_n hx hb dX5_most_60 rfl (lv_at hl 2 rfl) ?_
                refine lv_bipush (v := 25) hx hb dX5_most_61 (by decide) ?_
                refine lv_imul hx hb dX5_most_63 ?_
                refine lv_topi (fun y_43 ey_43 => ?_)
                obtain rfl : y_43 = 75 := ey_43.trans (by decide)
                refine lv_iload_n hx hb dX5_most_64 rfl (lv_at hl 3 rfl) ?_
                refine lv_iadd hx hb dX5_most_65 ?_
                refine lv_topi (fun x_44 ex_44 => ?_)
                have qx_44 : x_44.toInt = 75 + d.toInt := by rw [ex_44]; exact zf_add (by decide) rfl (by omega) (by omega)
                refine lv_istore (lv' := [(5, .int x_44), (4, .int 1), (0, .ref w0), (1, .int 3), (2, .int d), (3, .int sec)]) hx hb dX5_most_66 hl (by decide) rfl (fun ls hl => ?_)
                refine lv_iload hx hb dX5_most_68 (lv_at hl 1 rfl) ?_
                refine lv_if_eq (tgt := 92) hx hb dX5_most_70 (by decide) (fun c_45 => ?_) (fun c_45 => ?_)
                · exact absurd c_45 (by decide)
                · refine lv_aload_n hx hb dX5_most_73 rfl (lv_at hl 2 rfl) ?_
                  refine va_get (D := D) (ci := 5) (v := .ref wk) (C := RX5) (T := TX5) (N := 7) hx hb hts hi_X5_most_5 hown hK hP 0 rfl rfl 0 (by decide) (hts (.fieldLink RX5 9 "TheLiningsInIt$Ways" "knownMost" "[I") (List.mem_of_getElem? (i := 3) rfl)) (fun _ h9 => h9) rfl dX5_most_74 ?_
                  refine lv_iload hx hb dX5_most_77 (lv_at hl 0 rfl) ?_
                  refine va_iald hx hb hK hP 1 0 rfl rfl (zf_in (by omega) (by omega)) dX5_most_79 ?_
                  refine lv_topi (fun x_46 ex_46 => ?_)
                  refine lv_iconst (v := (-1)) hx hb dX5_most_80 (by decide) ?_
                  refine lv_icmp_eq (tgt := 92) hx hb dX5_most_81 (by decide) (fun c_47 => ?_) (fun c_47 => ?_)
                  · have fc_47 : x_46.toInt = (-1) := zf_eq c_47 rfl (by decide)
                    refine lv_iconst (v := 0) hx hb dX5_most_92 (by decide) ?_
                    refine lv_istore (lv' := [(6, .int 0), (5, .int x_44), (4, .int 1), (0, .ref w0), (1, .int 3), (2, .int d), (3, .int sec)]) hx hb dX5_most_93 hl (by decide) rfl (fun ls hl => ?_)
                    refine lv_iconst (v := 0) hx hb dX5_most_95 (by decide) ?_
                    refine lv_istore (lv' := [(7, .int 0), (6, .int 0), (5, .int x_44), (4, .int 1), (0, .ref w0), (1, .int 3), (2, .int d), (3, .int sec)]) hx hb dX5_most_96 hl (by decide) rfl (fun ls hl => ?_)
                    obtain ⟨i_98, hi_98⟩ : ∃ i : Int32, i = 0 := ⟨_, rfl⟩
                    replace hl : lv_has ls 9 [(7, .int i_98), (6, .int 0), (5, .int x_44), (4, .int 1), (0, .ref w0), (1, .int 3), (2, .int d), (3, .int sec)] := by rw [hi_98]; exact lv_sub hl [0, 1, 2, 3, 4, 5, 6, 7] rfl
                    have h1i_98 : i_98.toInt = 0 := by rw [hi_98]; decide
                    obtain ⟨nfu, hni_98⟩ : ∃ nq9 : Nat, wn.toInt ≤ i_98.toInt + (nq9 : Int) := ⟨((wn.toInt : Int) - 0).toNat, by omega⟩
                    have hloi_98 : 0 ≤ i_98.toInt := by omega
                    obtain ⟨g_48, hg_48⟩ : ∃ g : Nat → Int32, g = fk := ⟨_, rfl⟩
                    replace hP : va_P D vwCl [(w0, .inr (5, [.ref wk, .ref wl, .ref wc, .ref wp, .int wn, .int wh, .int wg])), (wk, .inl (cI, 125, .inl g_48)), (wp, .inl (cP, 8, .inr (.inr (.inr (.inr fp)))))] H := by rw [hg_48]; exact hP
                    replace hD : va_D (va_A [(w0, .inr (5, [.ref wk, .ref wl, .ref wc, .ref wp, .int wn, .int wh, .int wg])), (wk, .inl (cI, 125, .inl fk)), (wp, .inl (cP, 8, .inr (.inr (.inr (.inr fp)))))] s.heap.size) [(w0, .inr (5, [.ref wk, .ref wl, .ref wc, .ref wp, .int wn, .int wh, .int wg])), (wk, .inl (cI, 125, .inl g_48)), (wp, .inl (cP, 8, .inr (.inr (.inr (.inr fp)))))] := by rw [hg_48]; exact hD
                    obtain ⟨v_49, hv_49⟩ : ∃ g : Int32, g = 0 := ⟨_, rfl⟩
                    replace hl : lv_has ls 9 [(7, .int i_98), (6, .int v_49), (5, .int x_44), (4, .int 1), (0, .ref w0), (1, .int 3), (2, .int d), (3, .int sec)] := by rw [hv_49]; exact hl
                    clear h1i_98 hi_98 hg_48 hv_49
                    skip
                    revert hni_98
                    revert hloi_98
                    revert hl
                    revert hS
                    revert hD
                    revert hP
                    revert ls
                    revert locs
                    revert H
                    revert g_48
                    revert v_49
                    revert i_98
                    induction nfu with
                    | zero =>
                      intro i_98 v_49 g_48 H locs ls hP hD hS hl hloi_98 hni_98
                      have hzi_98 : wn.toInt ≤ i_98.toInt := by omega
                      refine lv_iload hx hb dX5_most_98 (lv_at hl 0 rfl) ?_
                      refine lv_aload_n hx hb dX5_most_100 rfl (lv_at hl 4 rfl) ?_
                      refine va_get (D := D) (ci := 5) (v := .int wn) (C := RX5) (T := TX5) (N := 7) hx hb hts hi_X5_most_5 hown hK hP 0 rfl rfl 4 (by decide) (hts (.fieldLink RX5 27 "TheLiningsInIt$Ways" "count" "I") (List.mem_of_getElem? (i := 4) rfl)) (fun _ h9 => h9) rfl dX5_most_101 ?_
                      refine lv_icmp_ge (tgt := 144) hx hb dX5_most_104 (by decide) (fun c_50 => ?_) (fun c_50 => ?_)
                      · have fc_50 : wn.toInt ≤ i_98.toInt := zf_le c_50 rfl rfl
                        refine lv_iload hx hb dX5_most_144 (lv_at hl 3 rfl) ?_
                        refine lv_if_eq (tgt := 158) hx hb dX5_most_146 (by decide) (fun c_51 => ?_) (fun c_51 => ?_)
                        · exact absurd c_51 (by decide)
                        · refine lv_aload_n hx hb dX5_most_149 rfl (lv_at hl 4 rfl) ?_
                          refine va_get (D := D) (ci := 5) (v := .ref wk) (C := RX5) (T := TX5) (N := 7) hx hb hts hi_X5_most_5 hown hK hP 0 rfl rfl 0 (by decide) (hts (.fieldLink RX5 9 "TheLiningsInIt$Ways" "knownMost" "[I") (List.mem_of_getElem? (i := 3) rfl)) (fun _ h9 => h9) rfl dX5_most_150 ?_
                          refine lv_iload hx hb dX5_most_153 (lv_at hl 2 rfl) ?_
                          refine lv_iload hx hb dX5_most_155 (lv_at hl 1 rfl) ?_
                          refine va_iast hx hb hK hP hD hS 1 0 rfl rfl (zf_in (by omega) (by omega)) dX5_most_157 (fun H locs hP hD hS => ?_)
                          obtain ⟨g_52, hg_52⟩ : ∃ g : Nat → Int32, g = upd g_48 x_44.toNatClampNeg v_49 := ⟨_, rfl⟩
                          rw [← hg_52] at hP hD
                          clear hg_52
                          have h9R := zRe (ws' := [(w0, .inr (5, [.ref wk, .ref wl, .ref wc, .ref wp, .int wn, .int wh, .int wg])), (wk, .inl (cI, 125, .inl g_52)), (wp, .inl (cP, 8, .inr (.inr (.inr (.inr fp)))))]) hP hD rfl
                          clear hP hD
                          obtain ⟨hP, hD⟩ := h9R
                          refine lv_iload hx hb dX5_most_158 (lv_at hl 1 rfl) ?_
                          exact W.iret (v := v_49) hx hb hr (fun t ht hW => ⟨⟨v_49, g_52, rfl, trivial, zRet ht hP hD [0, 1, 2] (by decide) rfl⟩, hS.F ht⟩) hS.2.2 dX5_most_160
                      · exfalso; have fc_50 : i_98.toInt < wn.toInt := zf_nle c_50 rfl rfl; omega
                    | succ nfu ih =>
                      intro i_98 v_49 g_48 H locs ls hP hD hS hl hloi_98 hni_98
                      refine lv_iload hx hb dX5_most_98 (lv_at hl 0 rfl) ?_
                      refine lv_aload_n hx hb dX5_most_100 rfl (lv_at hl 4 rfl) ?_
                      refine va_get (D := D) (ci := 5) (v := .int wn) (C := RX5) (T := TX5) (N := 7) hx hb hts hi_X5_most_5 hown hK hP 0 rfl rfl 4 (by decide) (hts (.fieldLink RX5 27 "TheLiningsInIt$Ways" "count" "I") (List.mem_of_getElem? (i := 4) rfl)) (fun _ h9 => h9) rfl dX5_most_101 ?_
                      refine lv_icmp_ge (tgt := 144) hx hb dX5_most_104 (by decide) (fun c_53 => ?_) (fun c_53 => ?_)
                      · have fc_53 : wn.toInt ≤ i_98.toInt := zf_le c_53 rfl rfl
                        refine lv_iload hx hb dX5_most_144 (lv_at hl 3 rfl) ?_
                        refine lv_if_eq (tgt := 158) hx hb dX5_most_146 (by decide) (fun c_54 => ?_) (fun c_54 => ?_)
                        · exact absurd c_54 (by decide)
                        · refine lv_aload_n hx hb dX5_most_149 rfl (lv_at hl 4 rfl) ?_
                          refine va_get (D := D) (ci := 5) (v := .ref wk) (C := RX5) (T := TX5) (N := 7) hx hb hts hi_X5_most_5 hown hK hP 0 rfl rfl 0 (by decide) (hts (.fieldLink RX5 9 "TheLiningsInIt$Ways" "knownMost" "[I") (List.mem_of_getElem? (i := 3) rfl)) (fun _ h9 => h9) rfl dX5_most_150 ?_
                          refine lv_iload hx hb dX5_most_153 (lv_at hl 2 rfl) ?_
                          refine lv_iload hx hb dX5_most_155 (lv_at hl 1 rfl) ?_
                          refine va_iast hx hb hK hP hD hS 1 0 rfl rfl (zf_in (by omega) (by omega)) dX5_most_157 (fun H locs hP hD hS => ?_)
                          obtain ⟨g_55, hg_55⟩ : ∃ g : Nat → Int32, g = upd g_48 x_44.toNatClampNeg v_49 := ⟨_, rfl⟩
                          rw [← hg_55] at hP hD
                          clear hg_55
                          have h9R := zRe (ws' := [(w0, .inr (5, [.ref wk, .ref wl, .ref wc, .ref wp, .int wn, .int wh, .int wg])), (wk, .inl (cI, 125, .inl g_55)), (wp, .inl (cP, 8, .inr (.inr (.inr (.inr fp)))))]) hP hD rfl
                          clear hP hD
                          obtain ⟨hP, hD⟩ := h9R
                          refine lv_iload hx hb dX5_most_158 (lv_at hl 1 rfl) ?_
                          exact W.iret (v := v_49) hx hb hr (fun t ht hW => ⟨⟨v_49, g_55, rfl, trivial, zRet ht hP hD [0, 1, 2] (by decide) rfl⟩, hS.F ht⟩) hS.2.2 dX5_most_160
                      · have fc_53 : i_98.toInt < wn.toInt := zf_nle c_53 rfl rfl
                        refine lv_aload_n hx hb dX5_most_107 rfl (lv_at hl 4 rfl) ?_
                        refine lv_iload hx hb dX5_most_108 (lv_at hl 0 rfl) ?_
                        refine lv_iload_n hx hb dX5_most_110 rfl (lv_at hl 6 rfl) ?_
                        refine lv_iload_n hx hb dX5_most_111 rfl (lv_at hl 7 rfl) ?_
                        refine zc_Vq (As := [.int i_98, .int d, .int sec]) (rest := []) ⟨hx, hb, hml, hown, hts⟩ (c_W_mayBeAt l D cI cJ cZ cP cS po w0 wk wl wc wp (wn) (wh) (wg) fp (i_98) (d) (sec) hy0 hy1 hy2 hy3 hy4 hy5 hwp) (cwV 3 hts gX5_most_X5_mayBeAt rfl rfl rfl ⟨rfl, dh_X5_mayBeAt⟩ ⟨Nat.le_of_ble_eq_true rfl, Nat.le_of_ble_eq_true rfl⟩) hK hN (hZ.kept hS) hP (hP.sub [0, 2] rfl) (va_recv (q := (RX5, TX5, 7)) hK hP (ci := 5) (q0 := 0) rfl rfl) rfl hl.1 rfl (Nat.le_of_ble_eq_true rfl) dX5_most_112 ⟨Nat.le_of_ble_eq_true rfl, Nat.le_of_ble_eq_true rfl⟩ (fun r_56 hr_56 => ?_)
                        rcases hr_56 with ⟨rfl, g_57⟩ | ⟨rfl, g_58, g_59⟩ | ⟨rfl, g_60, g_61⟩ | ⟨rfl, g_62, g_63, g_64⟩ | ⟨rfl, g_65, g_66, g_67⟩ | ⟨⟨u_71, kiu_71, au_71, tu_71, rfl, huu_71⟩, g_68, g_69, g_70⟩
                        · exfalso; omega
                        · exfalso; omega
                        · refine lv_astoreN (lv' := [(8, .null), (7, .int i_98), (6, .int v_49), (5, .int x_44), (4, .int 1), (0, .ref w0), (1, .int 3), (2, .int d), (3, .int sec)]) hx hb dX5_most_115 hl (by decide) rfl (fun ls hl => ?_)
                          refine lv_aloadN hx hb dX5_most_117 (lv_at hl 0 rfl) ?_
                          refine lv_ifnullN (tgt := 138) hx hb dX5_most_119 (by decide) ?_
                          obtain ⟨x_72, ex_72⟩ : ∃ y : Int32, y = i_98 + 1 := ⟨_, rfl⟩
                          have qx_72 : x_72.toInt = i_98.toInt + 1 := dw_inc ex_72 fc_53
                          refine lv_iinc (v := x_72) (lv' := [(7, .int x_72), (8, .null), (6, .int v_49), (5, .int x_44), (4, .int 1), (0, .ref w0), (1, .int 3), (2, .int d), (3, .int sec)]) hx hb dX5_most_138 hl (k := 1) rfl ex_72.symm (by decide) rfl (fun ls hl => ?_)
                          refine lv_goto (tgt := 98) hx hb dX5_most_141 (by decide) ?_
                          exact ih x_72 v_49 (g_48) _ _ _ (hP.sub [0, 1, 2] rfl) (hD.sub [0, 1, 2] (by decide) rfl) hS (lv_sub hl [0, 2, 3, 4, 5, 6, 7, 8] rfl) (dw_lo hloi_98 qx_72) (dw_hn hni_98 qx_72)
                        · exfalso; omega
                        · refine lv_astoreN (lv' := [(8, .null), (7, .int i_98), (6, .int v_49), (5, .int x_44), (4, .int 1), (0, .ref w0), (1, .int 3), (2, .int d), (3, .int sec)]) hx hb dX5_most_115 hl (by decide) rfl (fun ls hl => ?_)
                          refine lv_aloadN hx hb dX5_most_117 (lv_at hl 0 rfl) ?_
                          refine lv_ifnullN (tgt := 138) hx hb dX5_most_119 (by decide) ?_
                          obtain ⟨x_73, ex_73⟩ : ∃ y : Int32, y = i_98 + 1 := ⟨_, rfl⟩
                          have qx_73 : x_73.toInt = i_98.toInt + 1 := dw_inc ex_73 fc_53
                          refine lv_iinc (v := x_73) (lv' := [(7, .int x_73), (8, .null), (6, .int v_49), (5, .int x_44), (4, .int 1), (0, .ref w0), (1, .int 3), (2, .int d), (3, .int sec)]) hx hb dX5_most_138 hl (k := 1) rfl ex_73.symm (by decide) rfl (fun ls hl => ?_)
                          refine lv_goto (tgt := 98) hx hb dX5_most_141 (by decide) ?_
                          exact ih x_73 v_49 (g_48) _ _ _ (hP.sub [0, 1, 2] rfl) (hD.sub [0, 1, 2] (by decide) rfl) hS (lv_sub hl [0, 2, 3, 4, 5, 6, 7, 8] rfl) (dw_lo hloi_98 qx_73) (dw_hn hni_98 qx_73)
                        · refine W.eq (g2 := F0 m 115 ls (.ref u_71 :: [])) rfl ?_
                          obtain ⟨hku_71, hau_71, htu_71⟩ := zPu_pr (hZ.kept hS) huu_71
                          refine lv_astore (lv' := [(8, .ref u_71), (7, .int i_98), (6, .int v_49), (5, .int x_44), (4, .int 1), (0, .ref w0), (1, .int 3), (2, .int d), (3, .int sec)]) hx hb dX5_most_115 hl (by decide) rfl (fun ls hl => ?_)
                          refine lv_aload hx hb dX5_most_117 (lv_at hl 0 rfl) ?_
                          refine lv_ifnull hx hb dX5_most_119 ?_
                          refine lv_iload hx hb dX5_most_122 (lv_at hl 2 rfl) ?_
                          refine lv_aload_n hx hb dX5_most_124 rfl (lv_at hl 5 rfl) ?_
                          refine lv_aload hx hb dX5_most_125 (lv_at hl 0 rfl) ?_
                          refine lv_iload_n hx hb dX5_most_127 rfl (lv_at hl 6 rfl) ?_
                          refine lv_iload_n hx hb dX5_most_128 rfl (lv_at hl 7 rfl) ?_
                          refine lv_iload_n hx hb dX5_most_129 rfl (lv_at hl 8 rfl) ?_
                          skip
                          refine zw_V (As := [.ref u_71, .int 3, .int d, .int sec]) (rest := [.int v_49]) (wr := []) ⟨hx, hb, hml, hown, hts⟩ (c_W_mostBy_3 l D cI cJ cZ cP cS po w0 wk wl wc wp (wn) (wh) (wg) fp g_48 (d) (sec) u_71 (kiu_71) (au_71) (tu_71) huu_71 ⟨by omega, by omega, by omega, by omega⟩ hy0 hy1 hy2 hy3 hy4 hy5 hwp hy7 hy8 H.size) (cwV 4 hts gX5_most_X5_mostBy rfl rfl rfl ⟨rfl, dh_X5_mostBy⟩ ⟨Nat.le_of_ble_eq_true rfl, Nat.le_of_ble_eq_true rfl⟩) hK hN (hZ.kept hS) hP hD hS hA [0, 1, 2] [] rfl rfl (by decide) (by decide) (by decide) (va_recv (q := (RX5, TX5, 7)) hK hP (ci := 5) (q0 := 0) rfl rfl) rfl hl.1 rfl (Nat.le_of_ble_eq_true rfl) dX5_most_130 ⟨Nat.le_of_ble_eq_true rfl, Nat.le_of_ble_eq_true rfl⟩ (fun r_74 u_75 H locs hr_74 hP hD hS => ?_)
                          obtain ⟨q_76, rfl⟩ : ∃ z, z = u_75 := ⟨_, rfl⟩
                          have h9R := zRe (ws' := [(w0, .inr (5, [.ref wk, .ref wl, .ref wc, .ref wp, .int wn, .int wh, .int wg])), (wk, .inl (cI, 125, .inl q_76)), (wp, .inl (cP, 8, .inr (.inr (.inr (.inr fp)))))]) hP hD rfl
                          clear hP hD
                          obtain ⟨hP, hD⟩ := h9R
                          refine va_mmax hx hb (hml.trans hl.1.symm) hown (hts (.methodLink RX5 52 Lib.Math.max.name) (List.mem_of_getElem? (i := 5) rfl)) (hts _ (List.mem_of_getElem? (i := 6) rfl)) (hts _ (List.mem_of_getElem? (i := 7) rfl)) (hts _ (List.mem_of_getElem? (i := 8) rfl)) (Nat.le_of_ble_eq_true rfl) (Nat.le_of_ble_eq_true rfl) (Nat.le_of_ble_eq_true rfl) (Nat.le_of_ble_eq_true rfl) dX5_most_133 ?_
                          refine lv_topi (fun x_77 ex_77 => ?_)
                          have qx_77 := zf_max ex_77 (x1 := v_49.toInt) (y1 := r_74.toInt) rfl rfl
                          refine lv_istore (lv' := [(6, .int x_77), (8, .ref u_71), (7, .int i_98), (5, .int x_44), (4, .int 1), (0, .ref w0), (1, .int 3), (2, .int d), (3, .int sec)]) hx hb dX5_most_136 hl (by decide) rfl (fun ls hl => ?_)
                          obtain ⟨x_78, ex_78⟩ : ∃ y : Int32, y = i_98 + 1 := ⟨_, rfl⟩
                          have qx_78 : x_78.toInt = i_98.toInt + 1 := dw_inc ex_78 fc_53
                          refine lv_iinc (v := x_78) (lv' := [(7, .int x_78), (6, .int x_77), (8, .ref u_71), (5, .int x_44), (4, .int 1), (0, .ref w0), (1, .int 3), (2, .int d), (3, .int sec)]) hx hb dX5_most_138 hl (k := 2) rfl ex_78.symm (by decide) rfl (fun ls hl => ?_)
                          refine lv_goto (tgt := 98) hx hb dX5_most_141 (by decide) ?_
                          exact ih x_78 x_77 (q_76) _ _ _ (hP.sub [0, 1, 2] rfl) (hD.sub [0, 1, 2] (by decide) rfl) hS (lv_sub hl [0, 1, 3, 4, 5, 6, 7, 8] rfl) (dw_lo hloi_98 qx_78) (dw_hn hni_98 qx_78)
                  · have fc_47 : x_46.toInt ≠ (-1) := zf_ne c_47 rfl (by decide)
                    refine lv_aload_n hx hb dX5_most_84 rfl (lv_at hl 2 rfl) ?_
                    refine va_get (D := D) (ci := 5) (v := .ref wk) (C := RX5) (T := TX5) (N := 7) hx hb hts hi_X5_most_5 hown hK hP 0 rfl rfl 0 (by decide) (hts (.fieldLink RX5 9 "TheLiningsInIt$Ways" "knownMost" "[I") (List.mem_of_getElem? (i := 3) rfl)) (fun _ h9 => h9) rfl dX5_most_85 ?_
                    refine lv_iload hx hb dX5_most_88 (lv_at hl 0 rfl) ?_
                    refine va_iald hx hb hK hP 1 0 rfl rfl (zf_in (by omega) (by omega)) dX5_most_90 ?_
                    refine lv_topi (fun x_79 ex_79 => ?_)
                    exact W.iret (v := x_79) hx hb hr (fun t ht hW => ⟨⟨x_79, fk, rfl, trivial, zRet ht hP hD [0, 1, 2] (by decide) rfl⟩, hS.F ht⟩) hS.2.2 dX5_most_91
            · exact absurd c_8 (by decide)
        · exfalso; have fc_4 : 24 < d.toInt := zf_nle c_4 rfl (by decide); omega
set_option maxHeartbeats 4000000 in
set_option maxRecDepth 100000 in
theorem c_W_mostBy_4 (l : Launch) (D : va_G) (cI cJ cZ cP cS : ClassId) (po : zPool) (w0 wk wl wc wp : Nat) (wn wh wg : Int32) (fp : Nat → Option Nat) (fk : Nat → Int32) (d sec : Int32) (u0 : Nat) (ki a_ ta : Int32) (hu_u0 : zPu po u0 ki a_ ta) (hr_u0 : zPr ki a_ ta) (hy2 : 0 ≤ wn.toInt) (hy3 : wn.toInt ≤ 8) (hy4 : 0 ≤ wh.toInt) (hy5 : wh.toInt ≤ 9) (hy6 : 0 ≤ wg.toInt) (hy7 : wg.toInt ≤ 60) (hwp : zWP po fp) (hy9 : 0 ≤ d.toInt) (hy10 : d.toInt ≤ 24) (hpz : Nat) : Met l yX5_mostBy wsX5_mostBy ({ frames := 8, cells := 0, slots := 0, locals := 209 }) (va_Pc [.ref w0, .ref u0, .int 4, .int d, .int sec] (zW D (zKT cI cJ cZ cP cS) po [(w0, .inr (5, [.ref wk, .ref wl, .ref wc, .ref wp, .int wn, .int wh, .int wg])), (wk, .inl (cI, 125, .inl fk)), (wp, .inl (cP, 8, .inr (.inr (.inr (.inr fp)))))] hpz)) (va_Qi (fun (r : Int32) (fk2 : (Nat → Int32)) => True) (zB D [(w0, .inr (5, [.ref wk, .ref wl, .ref wc, .ref wp, .int wn, .int wh, .int wg])), (wk, .inl (cI, 125, .inl fk)), (wp, .inl (cP, 8, .inr (.inr (.inr (.inr fp)))))] hpz (fun (fk2 : Nat → Int32) => [(w0, .inr (5, [.ref wk, .ref wl, .ref wc, .ref wp, .int wn, .int wh, .int wg])), (wk, .inl (cI, 125, .inl fk2)), (wp, .inl (cP, 8, .inr (.inr (.inr (.inr fp)))))])) (va_A [(w0, .inr (5, [.ref wk, .ref wl, .ref wc, .ref wp, .int wn, .int wh, .int wg])), (wk, .inl (cI, 125, .inl fk)), (wp, .inl (cP, 8, .inr (.inr (.inr (.inr fp)))))] hpz)) 0 0 (va_A [(w0, .inr (5, [.ref wk, .ref wl, .ref wc, .ref wp, .int wn, .int wh, .int wg])), (wk, .inl (cI, 125, .inl fk)), (wp, .inl (cP, 8, .inr (.inr (.inr (.inr fp)))))] hpz) := by
  refine Met.ofW (cc := cX5_mostBy) (maxL := 8) (ret := (some .int)) (by decide) rfl ?_
  intro p e s m args below meth c s₁ B hml hv
  obtain ⟨rfl, hsz, hP, hK, hD0, hN, hZ⟩ := hv
  have hx := B.exec
  have hb := B.bytes
  have hr := B.returns
  have hts := atoms_spec (ws := wsX5_mostBy) B.pre
  have hown : s.vm.findClass RX5 = some m.cls := findClass_of_methodNamed B.named
  have hlocks := B.notSynchronized
  subst hsz
  have hD := hD0.self (sz := s.heap.size)
  have hA := zA_of hD
  have hl := lv_entry ([.ref w0, .ref u0, .int 4, .int d, .int sec]) (n := 8) (Nat.le_of_ble_eq_true rfl)
  rw [lg_entry_eq]
  generalize (lg_sl ([.ref w0, .ref u0, .int 4, .int d, .int sec]) ++ List.replicate (8 - (lg_sl ([.ref w0, .ref u0, .int 4, .int d, .int sec])).length) Slot.unset).toArray = ls at hl ⊢
  replace hl : lv_has ls 8 [(0, .ref w0), (1, .ref u0), (2, .int 4), (3, .int d), (4, .int sec)] := hl
  refine zw_begin hP hD (fun H locs hP1 hS => ?_)
  clear hP
  have hP := hP1
  clear hP1
  obtain ⟨⟨p1_u0, p2_u0⟩, ⟨p3_u0, p4_u0⟩, p5_u0, p6_u0⟩ := id hr_u0
  refine lv_aload_n hx hb dX5_mostBy_0 rfl (lv_at hl 1 rfl) ?_
  refine lv_iload_n hx hb dX5_mostBy_1 rfl (lv_at hl 3 rfl) ?_
  refine lv_aload_n hx hb dX5_mostBy_2 rfl (lv_at hl 0 rfl) ?_
  refine va_get (D := D) (ci := 5) (v := .int wh) (C := RX5) (T := TX5) (N := 7) hx hb hts hi_X5_mostBy_5 hown hK hP 0 rfl rfl 5 (by decide) (hts (.fieldLink RX5 31 "TheLiningsInIt$Ways" "hurry" "I") (List.mem_of_getElem? (i := 1) rfl)) (fun _ h9 => h9) rfl dX5_mostBy_3 ?_
  refine zc_V (As := [.int d, .int wh]) (rest := []) ⟨hx, hb, hml, hown, hts⟩ (c_Pull_waysAt l D cI cJ cZ cP cS po (d) (wh) u0 (ki) (a_) (ta) hu_u0 ⟨by omega, by omega, by omega, by omega⟩ hy9 hy10 hy4 hy5) (cwV 2 hts gX5_mostBy_X2_waysAt rfl rfl rfl ⟨rfl, dh_X2_waysAt⟩ ⟨Nat.le_of_ble_eq_true rfl, Nat.le_of_ble_eq_true rfl⟩) hK hN (hZ.kept hS) hP zP_nil (va_recv (q := (RX2, TX2, 3)) hK (zPu_P (hZ.kept hS) hu_u0) (ci := 2) (q0 := 0) rfl rfl) rfl hl.1 rfl (Nat.le_of_ble_eq_true rfl) dX5_mostBy_6 ⟨Nat.le_of_ble_eq_true rfl, Nat.le_of_ble_eq_true rfl⟩ (fun r_1 hr_1 => ?_)
  obtain ⟨g_2, g_3⟩ := hr_1
  refine lv_istore (lv' := [(5, .int r_1), (0, .ref w0), (1, .ref u0), (2, .int 4), (3, .int d), (4, .int sec)]) hx hb dX5_mostBy_9 hl (by decide) rfl (fun ls hl => ?_)
  refine lv_iload hx hb dX5_mostBy_11 (lv_at hl 5 rfl) ?_
  refine lv_aload_n hx hb dX5_mostBy_13 rfl (lv_at hl 2 rfl) ?_
  refine va_get (D := D) (ci := 2) (v := .int ta) (C := RX2) (T := TX2) (N := 3) hx hb hts hi_X5_mostBy_2 hown hK (zPu_P (hZ.kept hS) hu_u0) 0 rfl rfl 2 (by decide) (hts (.fieldLink RX5 49 "TheLiningsInIt$Pull" "takes" "I") (List.mem_of_getElem? (i := 2) rfl)) (fun _ h9 => h9) rfl dX5_mostBy_14 ?_
  refine lv_isub hx hb dX5_mostBy_17 ?_
  refine lv_topi (fun x_4 ex_4 => ?_)
  refine lv_istore (lv' := [(6, .int x_4), (5, .int r_1), (0, .ref w0), (1, .ref u0), (2, .int 4), (3, .int d), (4, .int sec)]) hx hb dX5_mostBy_18 hl (by decide) rfl (fun ls hl => ?_)
  refine lv_iconst (v := 0) hx hb dX5_mostBy_20 (by decide) ?_
  refine lv_istore (lv' := [(7, .int 0), (6, .int x_4), (5, .int r_1), (0, .ref w0), (1, .ref u0), (2, .int 4), (3, .int d), (4, .int sec)]) hx hb dX5_mostBy_21 hl (by decide) rfl (fun ls hl => ?_)
  refine lv_iload hx hb dX5_mostBy_23 (lv_at hl 2 rfl) ?_
  refine lv_if_le (tgt := 50) hx hb dX5_mostBy_25 (by decide) (fun c_5 => ?_) (fun c_5 => ?_)
  · have fc_5 : r_1.toInt ≤ 0 := zf_le c_5 rfl (by decide)
    refine lv_iload hx hb dX5_mostBy_50 (lv_at hl 2 rfl) ?_
    refine lv_bipush (v := 12) hx hb dX5_mostBy_52 (by decide) ?_
    refine lv_icmp_ge (tgt := 86) hx hb dX5_mostBy_54 (by decide) (fun c_6 => ?_) (fun c_6 => ?_)
    · exfalso; have fc_6 : 12 ≤ r_1.toInt := zf_le c_6 (by decide) rfl; omega
    · have fc_6 : r_1.toInt < 12 := zf_nle c_6 (by decide) rfl
      refine lv_iload hx hb dX5_mostBy_57 (lv_at hl 0 rfl) ?_
      refine lv_bipush (v := 12) hx hb dX5_mostBy_59 (by decide) ?_
      refine lv_iload hx hb dX5_mostBy_61 (lv_at hl 2 rfl) ?_
      refine lv_isub hx hb dX5_mostBy_63 ?_
      refine lv_topi (fun x_7 ex_7 => ?_)
      have qx_7 : x_7.toInt = 12 - r_1.toInt := by rw [ex_7]; exact zf_sub (by decide) rfl (by omega) (by omega)
      refine lv_aload_n hx hb dX5_mostBy_64 rfl (lv_at hl 3 rfl) ?_
      refine lv_iload_n hx hb dX5_mostBy_65 rfl (lv_at hl 5 rfl) ?_
      refine lv_iconst (v := 1) hx hb dX5_mostBy_66 (by decide) ?_
      refine lv_isub hx hb dX5_mostBy_67 ?_
      refine lv_topi (fun y_8 ey_8 => ?_)
      obtain rfl : y_8 = 3 := ey_8.trans (by decide)
      refine lv_aload_n hx hb dX5_mostBy_68 rfl (lv_at hl 4 rfl) ?_
      refine lv_iload_n hx hb dX5_mostBy_69 rfl (lv_at hl 6 rfl) ?_
      refine lv_aload_n hx hb dX5_mostBy_70 rfl (lv_at hl 3 rfl) ?_
      refine va_get (D := D) (ci := 5) (v := .int wh) (C := RX5) (T := TX5) (N := 7) hx hb hts hi_X5_mostBy_5 hown hK hP 0 rfl rfl 5 (by decide) (hts (.fieldLink RX5 31 "TheLiningsInIt$Ways" "hurry" "I") (List.mem_of_getElem? (i := 1) rfl)) (fun _ h9 => h9) rfl dX5_mostBy_71 ?_
      refine zc_V (As := [.int d, .int wh]) (rest := [.int 3, .ref w0, .int x_7, .int 0]) ⟨hx, hb, hml, hown, hts⟩ (c_Pull_deeper l D cI cJ cZ cP cS po (d) (wh) u0 (ki) (a_) (ta) hu_u0 ⟨by omega, by omega, by omega, by omega⟩ hy9 hy10 hy4 hy5) (cwV 2 hts gX5_mostBy_X2_deeper rfl rfl rfl ⟨rfl, dh_X2_deeper⟩ ⟨Nat.le_of_ble_eq_true rfl, Nat.le_of_ble_eq_true rfl⟩) hK hN (hZ.kept hS) hP zP_nil (va_recv (q := (RX2, TX2, 3)) hK (zPu_P (hZ.kept hS) hu_u0) (ci := 2) (q0 := 0) rfl rfl) rfl hl.1 rfl (Nat.le_of_ble_eq_true rfl) dX5_mostBy_74 ⟨Nat.le_of_ble_eq_true rfl, Nat.le_of_ble_eq_true rfl⟩ (fun r_9 hr_9 => ?_)
      obtain ⟨g_10, g_11⟩ := hr_9
      refine lv_iload hx hb dX5_mostBy_77 (lv_at hl 1 rfl) ?_
      skip
      refine zw_V (As := [.int 3, .int r_9, .int x_4]) (rest := [.int x_7, .int 0]) (wr := []) ⟨hx, hb, hml, hown, hts⟩ (c_W_most_3 l D cI cJ cZ cP cS po w0 wk wl wc wp (wn) (wh) (wg) fp fk (r_9) (x_4) hy2 hy3 hy4 hy5 hy6 hy7 hwp (by omega) (by omega) H.size) (cwV 3 hts gX5_mostBy_X5_most rfl rfl rfl ⟨rfl, dh_X5_most⟩ ⟨Nat.le_of_ble_eq_true rfl, Nat.le_of_ble_eq_true rfl⟩) hK hN (hZ.kept hS) hP hD hS hA [0, 1, 2] [] rfl rfl (by decide) (by decide) (by decide) (va_recv (q := (RX5, TX5, 7)) hK hP (ci := 5) (q0 := 0) rfl rfl) rfl hl.1 rfl (Nat.le_of_ble_eq_true rfl) dX5_mostBy_79 ⟨Nat.le_of_ble_eq_true rfl, Nat.le_of_ble_eq_true rfl⟩ (fun r_12 u_13 H locs hr_12 hP hD hS => ?_)
      obtain ⟨q_14, rfl⟩ : ∃ z, z = u_13 := ⟨_, rfl⟩
      have h9R := zRe (ws' := [(w0, .inr (5, [.ref wk, .ref wl, .ref wc, .ref wp, .int wn, .int wh, .int wg])), (wk, .inl (cI, 125, .inl q_14)), (wp, .inl (cP, 8, .inr (.inr (.inr (.inr fp)))))]) hP hD rfl
      clear hP hD
      obtain ⟨hP, hD⟩ := h9R
      refine lv_imul hx hb dX5_mostBy_82 ?_
      refine lv_topi (fun x_15 ex_15 => ?_)
      refine lv_iadd hx hb dX5_mostBy_83 ?_
      refine lv_topi (fun x_16 ex_16 => ?_)
      have rbx_16 := zf_rng x_15
      have qx_16 : x_16.toInt = 0 + x_15.toInt := by rw [ex_16]; exact zf_add (by decide) rfl (by omega) (by omega)
      refine lv_istore (lv' := [(7, .int x_16), (6, .int x_4), (5, .int r_1), (0, .ref w0), (1, .ref u0), (2, .int 4), (3, .int d), (4, .int sec)]) hx hb dX5_mostBy_84 hl (by decide) rfl (fun ls hl => ?_)
      refine lv_iload hx hb dX5_mostBy_86 (lv_at hl 0 rfl) ?_
      exact W.iret (v := x_16) hx hb hr (fun t ht hW => ⟨⟨x_16, q_14, rfl, trivial, zRet ht hP hD [0, 1, 2] (by decide) rfl⟩, hS.F ht⟩) hS.2.2 dX5_mostBy_88
  · have fc_5 : 0 < r_1.toInt := zf_nle c_5 rfl (by decide)
    refine lv_iload hx hb dX5_mostBy_28 (lv_at hl 0 rfl) ?_
    refine lv_iload hx hb dX5_mostBy_30 (lv_at hl 2 rfl) ?_
    refine lv_aload_n hx hb dX5_mostBy_32 rfl (lv_at hl 3 rfl) ?_
    refine lv_iload_n hx hb dX5_mostBy_33 rfl (lv_at hl 5 rfl) ?_
    refine lv_iconst (v := 1) hx hb dX5_mostBy_34 (by decide) ?_
    refine lv_isub hx hb dX5_mostBy_35 ?_
    refine lv_topi (fun y_17 ey_17 => ?_)
    obtain rfl : y_17 = 3 := ey_17.trans (by decide)
    refine lv_aload_n hx hb dX5_mostBy_36 rfl (lv_at hl 4 rfl) ?_
    refine lv_iload_n hx hb dX5_mostBy_37 rfl (lv_at hl 6 rfl) ?_
    refine zc_V (As := [.int d]) (rest := [.int 3, .ref w0, .int r_1, .int 0]) ⟨hx, hb, hml, hown, hts⟩ (c_Pull_shallower l D cI cJ cZ cP cS po (d) u0 (ki) (a_) (ta) hu_u0 ⟨by omega, by omega, by omega, by omega⟩ hy9 hy10) (cwV 1 hts gX5_mostBy_X2_shallower rfl rfl rfl ⟨rfl, dh_X2_shallower⟩ ⟨Nat.le_of_ble_eq_true rfl, Nat.le_of_ble_eq_true rfl⟩) hK hN (hZ.kept hS) hP zP_nil (va_recv (q := (RX2, TX2, 3)) hK (zPu_P (hZ.kept hS) hu_u0) (ci := 2) (q0 := 0) rfl rfl) rfl hl.1 rfl (Nat.le_of_ble_eq_true rfl) dX5_mostBy_38 ⟨Nat.le_of_ble_eq_true rfl, Nat.le_of_ble_eq_true rfl⟩ (fun r_18 hr_18 => ?_)
    obtain ⟨g_19, g_20⟩ := hr_18
    refine lv_iload hx hb dX5_mostBy_41 (lv_at hl 1 rfl) ?_
    skip
    refine zw_V (As := [.int 3, .int r_18, .int x_4]) (rest := [.int r_1, .int 0]) (wr := []) ⟨hx, hb, hml, hown, hts⟩ (c_W_most_3 l D cI cJ cZ cP cS po w0 wk wl wc wp (wn) (wh) (wg) fp fk (r_18) (x_4) hy2 hy3 hy4 hy5 hy6 hy7 hwp (by omega) (by omega) H.size) (cwV 3 hts gX5_mostBy_X5_most rfl rfl rfl ⟨rfl, dh_X5_most⟩ ⟨Nat.le_of_ble_eq_true rfl, Nat.le_of_ble_eq_true rfl⟩) hK hN (hZ.kept hS) hP hD hS hA [0, 1, 2] [] rfl rfl (by decide) (by decide) (by decide) (va_recv (q := (RX5, TX5, 7)) hK hP (ci := 5) (q0 := 0) rfl rfl) rfl hl.1 rfl (Nat.le_of_ble_eq_true rfl) dX5_mostBy_43 ⟨Nat.le_of_ble_eq_true rfl, Nat.le_of_ble_eq_true rfl⟩ (fun r_21 u_22 H locs hr_21 hP hD hS => ?_)
    obtain ⟨q_23, rfl⟩ : ∃ z, z = u_22 := ⟨_, rfl⟩
    have h9R := zRe (ws' := [(w0, .inr (5, [.ref wk, .ref wl, .ref wc, .ref wp, .int wn, .int wh, .int wg])), (wk, .inl (cI, 125, .inl q_23)), (wp, .inl (cP, 8, .inr (.inr (.inr (.inr fp)))))]) hP hD rfl
    clear hP hD
    obtain ⟨hP, hD⟩ := h9R
    refine lv_imul hx hb dX5_mostBy_46 ?_
    refine lv_topi (fun x_24 ex_24 => ?_)
    refine lv_iadd hx hb dX5_mostBy_47 ?_
    refine lv_topi (fun x_25 ex_25 => ?_)
    have rbx_25 := zf_rng x_24
    have qx_25 : x_25.toInt = 0 + x_24.toInt := by rw [ex_25]; exact zf_add (by decide) rfl (by omega) (by omega)
    refine lv_istore (lv' := [(7, .int x_25), (6, .int x_4), (5, .int r_1), (0, .ref w0), (1, .ref u0), (2, .int 4), (3, .int d), (4, .int sec)]) hx hb dX5_mostBy_48 hl (by decide) rfl (fun ls hl => ?_)
    refine lv_iload hx hb dX5_mostBy_50 (lv_at hl 2 rfl) ?_
    refine lv_bipush (v := 12) hx hb dX5_mostBy_52 (by decide) ?_
    refine lv_icmp_ge (tgt := 86) hx hb dX5_mostBy_54 (by decide) (fun c_26 => ?_) (fun c_26 => ?_)
    · have fc_26 : 12 ≤ r_1.toInt := zf_le c_26 (by decide) rfl
      refine lv_iload hx hb dX5_mostBy_86 (lv_at hl 0 rfl) ?_
      exact W.iret (v := x_25) hx hb hr (fun t ht hW => ⟨⟨x_25, q_23, rfl, trivial, zRet ht hP hD [0, 1, 2] (by decide) rfl⟩, hS.F ht⟩) hS.2.2 dX5_mostBy_88
    · have fc_26 : r_1.toInt < 12 := zf_nle c_26 (by decide) rfl
      refine lv_iload hx hb dX5_mostBy_57 (lv_at hl 0 rfl) ?_
      refine lv_bipush (v := 12) hx hb dX5_mostBy_59 (by decide) ?_
      refine lv_iload hx hb dX5_mostBy_61 (lv_at hl 2 rfl) ?_
      refine lv_isub hx hb dX5_mostBy_63 ?_
      refine lv_topi (fun x_27 ex_27 => ?_)
      have qx_27 : x_27.toInt = 12 - r_1.toInt := by rw [ex_27]; exact zf_sub (by decide) rfl (by omega) (by omega)
      refine lv_aload_n hx hb dX5_mostBy_64 rfl (lv_at hl 3 rfl) ?_
      refine lv_iload_n hx hb dX5_mostBy_65 rfl (lv_at hl 5 rfl) ?_
      refine lv_iconst (v := 1) hx hb dX5_mostBy_66 (by decide) ?_
      refine lv_isub hx hb dX5_mostBy_67 ?_
      refine lv_topi (fun y_28 ey_28 => ?_)
      obtain rfl : y_28 = 3 := ey_28.trans (by decide)
      refine lv_aload_n hx hb dX5_mostBy_68 rfl (lv_at hl 4 rfl) ?_
      refine lv_iload_n hx hb dX5_mostBy_69 rfl (lv_at hl 6 rfl) ?_
      refine lv_aload_n hx hb dX5_mostBy_70 rfl (lv_at hl 3 rfl) ?_
      refine va_get (D := D) (ci := 5) (v := .int wh) (C := RX5) (T := TX5) (N := 7) hx hb hts hi_X5_mostBy_5 hown hK hP 0 rfl rfl 5 (by decide) (hts (.fieldLink RX5 31 "TheLiningsInIt$Ways" "hurry" "I") (List.mem_of_getElem? (i := 1) rfl)) (fun _ h9 => h9) rfl dX5_mostBy_71 ?_
      refine zc_V (As := [.int d, .int wh]) (rest := [.int 3, .ref w0, .int x_27, .int x_25]) ⟨hx, hb, hml, hown, hts⟩ (c_Pull_deeper l D cI cJ cZ cP cS po (d) (wh) u0 (ki) (a_) (ta) hu_u0 ⟨by omega, by omega, by omega, by omega⟩ hy9 hy10 hy4 hy5) (cwV 2 hts gX5_mostBy_X2_deeper rfl rfl rfl ⟨rfl, dh_X2_deeper⟩ ⟨Nat.le_of_ble_eq_true rfl, Nat.le_of_ble_eq_true rfl⟩) hK hN (hZ.kept hS) hP zP_nil (va_recv (q := (RX2, TX2, 3)) hK (zPu_P (hZ.kept hS) hu_u0) (ci := 2) (q0 := 0) rfl rfl) rfl hl.1 rfl (Nat.le_of_ble_eq_true rfl) dX5_mostBy_74 ⟨Nat.le_of_ble_eq_true rfl, Nat.le_of_ble_eq_true rfl⟩ (fun r_29 hr_29 => ?_)
      obtain ⟨g_30, g_31⟩ := hr_29
      refine lv_iload hx hb dX5_mostBy_77 (lv_at hl 1 rfl) ?_
      skip
      refine zw_V (As := [.int 3, .int r_29, .int x_4]) (rest := [.int x_27, .int x_25]) (wr := []) ⟨hx, hb, hml, hown, hts⟩ (c_W_most_3 l D cI cJ cZ cP cS po w0 wk wl wc wp (wn) (wh) (wg) fp q_23 (r_29) (x_4) hy2 hy3 hy4 hy5 hy6 hy7 hwp (by omega) (by omega) H.size) (cwV 3 hts gX5_mostBy_X5_most rfl rfl rfl ⟨rfl, dh_X5_most⟩ ⟨Nat.le_of_ble_eq_true rfl, Nat.le_of_ble_eq_true rfl⟩) hK hN (hZ.kept hS) hP hD hS hA [0, 1, 2] [] rfl rfl (by decide) (by decide) (by decide) (va_recv (q := (RX5, TX5, 7)) hK hP (ci := 5) (q0 := 0) rfl rfl) rfl hl.1 rfl (Nat.le_of_ble_eq_true rfl) dX5_mostBy_79 ⟨Nat.le_of_ble_eq_true rfl, Nat.le_of_ble_eq_true rfl⟩ (fun r_32 u_33 H locs hr_32 hP hD hS => ?_)
      obtain ⟨q_34, rfl⟩ : ∃ z, z = u_33 := ⟨_, rfl⟩
      have h9R := zRe (ws' := [(w0, .inr (5, [.ref wk, .ref wl, .ref wc, .ref wp, .int wn, .int wh, .int wg])), (wk, .inl (cI, 125, .inl q_34)), (wp, .inl (cP, 8, .inr (.inr (.inr (.inr fp)))))]) hP hD rfl
      clear hP hD
      obtain ⟨hP, hD⟩ := h9R
      refine lv_imul hx hb dX5_mostBy_82 ?_
      refine lv_topi (fun x_35 ex_35 => ?_)
      refine lv_iadd hx hb dX5_mostBy_83 ?_
      refine lv_topi (fun x_36 ex_36 => ?_)
      refine lv_istore (lv' := [(7, .int x_36), (6, .int x_4), (5, .int r_1), (0, .ref w0), (1, .ref u0), (2, .int 4), (3, .int d), (4, .int sec)]) hx hb dX5_mostBy_84 hl (by decide) rfl (fun ls hl => ?_)
      refine lv_iload hx hb dX5_mostBy_86 (lv_at hl 0 rfl) ?_
      exact W.iret (v := x_36) hx hb hr (fun t ht hW => ⟨⟨x_36, q_34, rfl, trivial, zRet ht hP hD [0, 1, 2] (by decide) rfl⟩, hS.F ht⟩) hS.2.2 dX5_mostBy_88
set_option maxHeartbeats 4000000 in
set_option maxRecDepth 100000 in
theorem c_W_most_4 (l : Launch) (D : va_G) (cI cJ cZ cP cS : ClassId) (po : zPool) (w0 wk wl wc wp : Nat) (wn wh wg : Int32) (fp : Nat → Option Nat) (fk : Nat → Int32) (d sec : Int32) (hy0 : 0 ≤ wn.toInt) (hy1 : wn.toInt ≤ 8) (hy2 : 0 ≤ wh.toInt) (hy3 : wh.toInt ≤ 9) (hy4 : 0 ≤ wg.toInt) (hy5 : wg.toInt ≤ 60) (hwp : zWP po fp) (hy7 : 0 ≤ d.toInt) (hy8 : d.toInt ≤ 24) (hpz : Nat) : Met l yX5_most wsX5_most ({ frames := 9, cells := 0, slots := 0, locals := 236 }) (va_Pc [.ref w0, .int 4, .int d, .int sec] (zW D (zKT cI cJ cZ cP cS) po [(w0, .inr (5, [.ref wk, .ref wl, .ref wc, .ref wp, .int wn, .int wh, .int wg])), (wk, .inl (cI, 125, .inl fk)), (wp, .inl (cP, 8, .inr (.inr (.inr (.inr fp)))))] hpz)) (va_Qi (fun (r : Int32) (fk2 : (Nat → Int32)) => True) (zB D [(w0, .inr (5, [.ref wk, .ref wl, .ref wc, .ref wp, .int wn, .int wh, .int wg])), (wk, .inl (cI, 125, .inl fk)), (wp, .inl (cP, 8, .inr (.inr (.inr (.inr fp)))))] hpz (fun (fk2 : Nat → Int32) => [(w0, .inr (5, [.ref wk, .ref wl, .ref wc, .ref wp, .int wn, .int wh, .int wg])), (wk, .inl (cI, 125, .inl fk2)), (wp, .inl (cP, 8, .inr (.inr (.inr (.inr fp)))))])) (va_A [(w0, .inr (5, [.ref wk, .ref wl, .ref wc, .ref wp, .int wn, .int wh, .int wg])), (wk, .inl (cI, 125, .inl fk)), (wp, .inl (cP, 8, .inr (.inr (.inr (.inr fp)))))] hpz)) 0 0 (va_A [(w0, .inr (5, [.ref wk, .ref wl, .ref wc, .ref wp, .int wn, .int wh, .int wg])), (wk, .inl (cI, 125, .inl fk)), (wp, .inl (cP, 8, .inr (.inr (.inr (.inr fp)))))] hpz) := by
  refine Met.ofW (cc := cX5_most) (maxL := 9) (ret := (some .int)) (by decide) rfl ?_
  intro p e s m args below meth c s₁ B hml hv
  obtain ⟨rfl, hsz, hP, hK, hD0, hN, hZ⟩ := hv
  have hx := B.exec
  have hb := B.bytes
  have hr := B.returns
  have hts := atoms_spec (ws := wsX5_most) B.pre
  have hown : s.vm.findClass RX5 = some m.cls := findClass_of_methodNamed B.named
  have hlocks := B.notSynchronized
  subst hsz
  have hD := hD0.self (sz := s.heap.size)
  have hA := zA_of hD
  have hl := lv_entry ([.ref w0, .int 4, .int d, .int sec]) (n := 9) (Nat.le_of_ble_eq_true rfl)
  rw [lg_entry_eq]
  generalize (lg_sl ([.ref w0, .int 4, .int d, .int sec]) ++ List.replicate (9 - (lg_sl ([.ref w0, .int 4, .int d, .int sec])).length) Slot.unset).toArray = ls at hl ⊢
  replace hl : lv_has ls 9 [(0, .ref w0), (1, .int 4), (2, .int d), (3, .int sec)] := hl
  refine zw_begin hP hD (fun H locs hP1 hS => ?_)
  clear hP
  have hP := hP1
  clear hP1
  refine lv_iload_n hx hb dX5_most_0 rfl (lv_at hl 1 rfl) ?_
  refine lv_if_lt (tgt := 19) hx hb dX5_most_1 (by decide) (fun c_1 => ?_) (fun c_1 => ?_)
  · exact absurd c_1 (by decide)
  · refine lv_iload_n hx hb dX5_most_4 rfl (lv_at hl 1 rfl) ?_
    refine lv_iconst (v := 4) hx hb dX5_most_5 (by decide) ?_
    refine lv_icmp_gt (tgt := 19) hx hb dX5_most_6 (by decide) (fun c_2 => ?_) (fun c_2 => ?_)
    · exact absurd c_2 (by decide)
    · refine lv_iload_n hx hb dX5_most_9 rfl (lv_at hl 2 rfl) ?_
      refine lv_if_lt (tgt := 19) hx hb dX5_most_10 (by decide) (fun c_3 => ?_) (fun c_3 => ?_)
      · exfalso; have fc_3 : d.toInt < 0 := zf_lt c_3 rfl (by decide); omega
      · have fc_3 : 0 ≤ d.toInt := zf_nlt c_3 rfl (by decide)
        refine lv_iload_n hx hb dX5_most_13 rfl (lv_at hl 2 rfl) ?_
        refine lv_bipush (v := 24) hx hb dX5_most_14 (by decide) ?_
        refine lv_icmp_le (tgt := 21) hx hb dX5_most_16 (by decide) (fun c_4 => ?_) (fun c_4 => ?_)
        · have fc_4 : d.toInt ≤ 24 := zf_le c_4 rfl (by decide)
          refine lv_iload_n hx hb dX5_most_21 rfl (lv_at hl 2 rfl) ?_
          refine lv_if_eq (tgt := 29) hx hb dX5_most_22 (by decide) (fun c_5 => ?_) (fun c_5 => ?_)
          · have fc_5 : d.toInt = 0 := zf_eq c_5 rfl (by decide)
            refine lv_iload_n hx hb dX5_most_29 rfl (lv_at hl 2 rfl) ?_
            refine lv_if_ne (tgt := 41) hx hb dX5_most_30 (by decide) (fun c_6 => ?_) (fun c_6 => ?_)
            · exfalso; have fc_6 : d.toInt ≠ 0 := zf_ne c_6 rfl (by decide); omega
            · have fc_6 : d.toInt = 0 := zf_eq c_6 rfl (by decide)
              obtain ⟨t_7, zt_7, yt_7⟩ := hZ.1.1
              refine va_gets hx hb zt_7 hS hown (hts (.fieldLink RX5 79 "TheLiningsInIt$Ways" "POWERS" "[I") (List.mem_of_getElem? (i := 1) rfl)) (fun _ h9 => h9) dX5_most_33 ?_
              refine lv_iload_n hx hb dX5_most_36 rfl (lv_at hl 1 rfl) ?_
              refine va_ti hx hb yt_7 hS (zf_in (by decide) (by decide)) (v := .int 20736) (by decide) dX5_most_37 ?_
              refine lv_goto (tgt := 42) hx hb dX5_most_38 (by decide) ?_
              exact W.iret (v := 20736) hx hb hr (fun t ht hW => ⟨⟨20736, fk, rfl, trivial, zRet ht hP hD [0, 1, 2] (by decide) rfl⟩, hS.F ht⟩) hS.2.2 dX5_most_42
          · have fc_5 : d.toInt ≠ 0 := zf_ne c_5 rfl (by decide)
            refine lv_iload_n hx hb dX5_most_25 rfl (lv_at hl 1 rfl) ?_
            refine lv_if_ne (tgt := 43) hx hb dX5_most_26 (by decide) (fun c_8 => ?_) (fun c_8 => ?_)
            · refine lv_iload_n hx hb dX5_most_43 rfl (lv_at hl 3 rfl) ?_
              refine lv_iload_n hx hb dX5_most_44 rfl (lv_at hl 1 rfl) ?_
              refine lv_aload_n hx hb dX5_most_45 rfl (lv_at hl 0 rfl) ?_
              refine va_get (D := D) (ci := 5) (v := .int wg) (C := RX5) (T := TX5) (N := 7) hx hb hts hi_X5_most_5 hown hK hP 0 rfl rfl 6 (by decide) (hts (.fieldLink RX5 34 "TheLiningsInIt$Ways" "longest" "I") (List.mem_of_getElem? (i := 2) rfl)) (fun _ h9 => h9) rfl dX5_most_46 ?_
              refine lv_imul hx hb dX5_most_49 ?_
              refine lv_topi (fun x_9 ex_9 => ?_)
              have qx_9 : x_9.toInt = 4 * wg.toInt := by rw [ex_9]; exact zf_mul (by decide) rfl (by omega) (by omega)
              refine lv_icmp_lt (tgt := 57) hx hb dX5_most_50 (by decide) (fun c_10 => ?_) (fun c_10 => ?_)
              · have fc_10 : sec.toInt < x_9.toInt := zf_lt c_10 rfl rfl
                refine lv_iconst (v := 0) hx hb dX5_most_57 (by decide) ?_
                refine lv_istore (lv' := [(4, .int 0), (0, .ref w0), (1, .int 4), (2, .int d), (3, .int sec)]) hx hb dX5_most_58 hl (by decide) rfl (fun ls hl => ?_)
                refine lv_iload_n hx hb dX5_most_60 rfl (lv_at hl 2 rfl) ?_
                refine lv_bipush (v := 25) hx hb dX5_most_61 (by decide) ?_
                refine lv_imul hx hb dX5_most_63 ?_
                refine lv_topi (fun y_11 ey_11 => ?_)
                obtain rfl : y_11 = 100 := ey_11.trans (by decide)
                refine lv_iload_n hx hb dX5_most_64 rfl (lv_at hl 3 rfl) ?_
                refine lv_iadd hx hb dX5_most_65 ?_
                refine lv_topi (fun x_12 ex_12 => ?_)
                have qx_12 : x_12.toInt = 100 + d.toInt := by rw [ex_12]; exact zf_add (by decide) rfl (by omega) (by omega)
                refine lv_istore (lv' := [(5, .int x_12), (4, .int 0), (0, .ref w0), (1, .int 4), (2, .int d), (3, .int sec)]) hx hb dX5_most_66 hl (by decide) rfl (fun ls hl => ?_)
                refine lv_iload hx hb dX5_most_68 (lv_at hl 1 rfl) ?_
                refine lv_if_eq (tgt := 92) hx hb dX5_most_70 (by decide) (fun c_13 => ?_) (fun c_13 => ?_)
                · refine lv_iconst (v := 0) hx hb dX5_most_92 (by decide) ?_
                  refine lv_istore (lv' := [(6, .int 0), (5, .int x_12), (4, .int 0), (0, .ref w0), (1, .int 4), (2, .int d), (3, .int sec)]) hx hb dX5_most_93 hl (by decide) rfl (fun ls hl => ?_)
                  refine lv_iconst (v := 0) hx hb dX5_most_95 (by decide) ?_
                  refine lv_istore (lv' := [(7, .int 0), (6, .int 0), (5, .int x_12), (4, .int 0), (0, .ref w0), (1, .int 4), (2, .int d), (3, .int sec)]) hx hb dX5_most_96 hl (by decide) rfl (fun ls hl => ?_)
                  obtain ⟨i_98, hi_98⟩ : ∃ i : Int32, i = 0 := ⟨_, rfl⟩
                  replace hl : lv_has ls 9 [(7, .int i_98), (6, .int 0), (5, .int x_12), (4, .int 0), (0, .ref w0), (1, .int 4), (2, .int d), (3, .int sec)] := by rw [hi_98]; exact lv_sub hl [0, 1, 2, 3, 4, 5, 6, 7] rfl
                  have h1i_98 : i_98.toInt = 0 := by rw [hi_98]; decide
                  obtain ⟨nfu, hni_98⟩ : ∃ nq9 : Nat, wn.toInt ≤ i_98.toInt + (nq9 : Int) := ⟨((wn.toInt : Int) - 0).toNat, by omega⟩
                  have hloi_98 : 0 ≤ i_98.toInt := by omega
                  obtain ⟨g_14, hg_14⟩ : ∃ g : Nat → Int32, g = fk := ⟨_, rfl⟩
                  replace hP : va_P D vwCl [(w0, .inr (5, [.ref wk, .ref wl, .ref wc, .ref wp, .int wn, .int wh, .int wg])), (wk, .inl (cI, 125, .inl g_14)), (wp, .inl (cP, 8, .inr (.inr (.inr (.inr fp)))))] H := by rw [hg_14]; exact hP
                  replace hD : va_D (va_A [(w0, .inr (5, [.ref wk, .ref wl, .ref wc, .ref wp, .int wn, .int wh, .int wg])), (wk, .inl (cI, 125, .inl fk)), (wp, .inl (cP, 8, .inr (.inr (.inr (.inr fp)))))] s.heap.size) [(w0, .inr (5, [.ref wk, .ref wl, .ref wc, .ref wp, .int wn, .int wh, .int wg])), (wk, .inl (cI, 125, .inl g_14)), (wp, .inl (cP, 8, .inr (.inr (.inr (.inr fp)))))] := by rw [hg_14]; exact hD
                  obtain ⟨v_15, hv_15⟩ : ∃ g : Int32, g = 0 := ⟨_, rfl⟩
                  replace hl : lv_has ls 9 [(7, .int i_98), (6, .int v_15), (5, .int x_12), (4, .int 0), (0, .ref w0), (1, .int 4), (2, .int d), (3, .int sec)] := by rw [hv_15]; exact hl
                  clear h1i_98 hi_98 hg_14 hv_15
                  skip
                  revert hni_98
                  revert hloi_98
                  revert hl
                  revert hS
                  revert hD
                  revert hP
                  revert ls
                  revert locs
                  revert H
                  revert g_14
                  revert v_15
                  revert i_98
                  induction nfu with
                  | zero =>
                    intro i_98 v_15 g_14 H locs ls hP hD hS hl hloi_98 hni_98
                    have hzi_98 : wn.toInt ≤ i_98.toInt := by omega
                    refine lv_iload hx hb dX5_most_98 (lv_at hl 0 rfl) ?_
                    refine lv_aload_n hx hb dX5_most_100 rfl (lv_at hl 4 rfl) ?_
                    refine va_get (D := D) (ci := 5) (v := .int wn) (C := RX5) (T := TX5) (N := 7) hx hb hts hi_X5_most_5 hown hK hP 0 rfl rfl 4 (by decide) (hts (.fieldLink RX5 27 "TheLiningsInIt$Ways" "count" "I") (List.mem_of_getElem? (i := 4) rfl)) (fun _ h9 => h9) rfl dX5_most_101 ?_
                    refine lv_icmp_ge (tgt := 144) hx hb dX5_most_104 (by decide) (fun c_16 => ?_) (fun c_16 => ?_)
                    · have fc_16 : wn.toInt ≤ i_98.toInt := zf_le c_16 rfl rfl
                      refine lv_iload hx hb dX5_most_144 (lv_at hl 3 rfl) ?_
                      refine lv_if_eq (tgt := 158) hx hb dX5_most_146 (by decide) (fun c_17 => ?_) (fun c_17 => ?_)
                      · refine lv_iload hx hb dX5_most_158 (lv_at hl 1 rfl) ?_
                        exact W.iret (v := v_15) hx hb hr (fun t ht hW => ⟨⟨v_15, g_14, rfl, trivial, zRet ht hP hD [0, 1, 2] (by decide) rfl⟩, hS.F ht⟩) hS.2.2 dX5_most_160
                      · exact absurd c_17 (by decide)
                    · exfalso; have fc_16 : i_98.toInt < wn.toInt := zf_nle c_16 rfl rfl; omega
                  | succ nfu ih =>
                    intro i_98 v_15 g_14 H locs ls hP hD hS hl hloi_98 hni_98
                    refine lv_iload hx hb dX5_most_98 (lv_at hl 0 rfl) ?_
                    refine lv_aload_n hx hb dX5_most_100 rfl (lv_at hl 4 rfl) ?_
                    refine va_get (D := D) (ci := 5) (v := .int wn) (C := RX5) (T := TX5) (N := 7) hx hb hts hi_X5_most_5 hown hK hP 0 rfl rfl 4 (by decide) (hts (.fieldLink RX5 27 "TheLiningsInIt$Ways" "count" "I") (List.mem_of_getElem? (i := 4) rfl)) (fun _ h9 => h9) rfl dX5_most_101 ?_
                    refine lv_icmp_ge (tgt := 144) hx hb dX5_most_104 (by decide) (fun c_18 => ?_) (fun c_18 => ?_)
                    · have fc_18 : wn.toInt ≤ i_98.toInt := zf_le c_18 rfl rfl
                      refine lv_iload hx hb dX5_most_144 (lv_at hl 3 rfl) ?_
                      refine lv_if_eq (tgt := 158) hx hb dX5_most_146 (by decide) (fun c_19 => ?_) (fun c_19 => ?_)
                      · refine lv_iload hx hb dX5_most_158 (lv_at hl 1 rfl) ?_
                        exact W.iret (v := v_15) hx hb hr (fun t ht hW => ⟨⟨v_15, g_14, rfl, trivial, zRet ht hP hD [0, 1, 2] (by decide) rfl⟩, hS.F ht⟩) hS.2.2 dX5_most_160
                      · exact absurd c_19 (by decide)
                    · have fc_18 : i_98.toInt < wn.toInt := zf_nle c_18 rfl rfl
                      refine lv_aload_n hx hb dX5_most_107 rfl (lv_at hl 4 rfl) ?_
                      refine lv_iload hx hb dX5_most_108 (lv_at hl 0 rfl) ?_
                      refine lv_iload_n hx hb dX5_most_110 rfl (lv_at hl 6 rfl) ?_
                      refine lv_iload_n hx hb dX5_most_111 rfl (lv_at hl 7 rfl) ?_
                      refine zc_Vq (As := [.int i_98, .int d, .int sec]) (rest := []) ⟨hx, hb, hml, hown, hts⟩ (c_W_mayBeAt l D cI cJ cZ cP cS po w0 wk wl wc wp (wn) (wh) (wg) fp (i_98) (d) (sec) hy0 hy1 hy2 hy3 hy4 hy5 hwp) (cwV 3 hts gX5_most_X5_mayBeAt rfl rfl rfl ⟨rfl, dh_X5_mayBeAt⟩ ⟨Nat.le_of_ble_eq_true rfl, Nat.le_of_ble_eq_true rfl⟩) hK hN (hZ.kept hS) hP (hP.sub [0, 2] rfl) (va_recv (q := (RX5, TX5, 7)) hK hP (ci := 5) (q0 := 0) rfl rfl) rfl hl.1 rfl (Nat.le_of_ble_eq_true rfl) dX5_most_112 ⟨Nat.le_of_ble_eq_true rfl, Nat.le_of_ble_eq_true rfl⟩ (fun r_20 hr_20 => ?_)
                      rcases hr_20 with ⟨rfl, g_21⟩ | ⟨rfl, g_22, g_23⟩ | ⟨rfl, g_24, g_25⟩ | ⟨rfl, g_26, g_27, g_28⟩ | ⟨rfl, g_29, g_30, g_31⟩ | ⟨⟨u_35, kiu_35, au_35, tu_35, rfl, huu_35⟩, g_32, g_33, g_34⟩
                      · exfalso; omega
                      · exfalso; omega
                      · refine lv_astoreN (lv' := [(8, .null), (7, .int i_98), (6, .int v_15), (5, .int x_12), (4, .int 0), (0, .ref w0), (1, .int 4), (2, .int d), (3, .int sec)]) hx hb dX5_most_115 hl (by decide) rfl (fun ls hl => ?_)
                        refine lv_aloadN hx hb dX5_most_117 (lv_at hl 0 rfl) ?_
                        refine lv_ifnullN (tgt := 138) hx hb dX5_most_119 (by decide) ?_
                        obtain ⟨x_36, ex_36⟩ : ∃ y : Int32, y = i_98 + 1 := ⟨_, rfl⟩
                        have qx_36 : x_36.toInt = i_98.toInt + 1 := dw_inc ex_36 fc_18
                        refine lv_iinc (v := x_36) (lv' := [(7, .int x_36), (8, .null), (6, .int v_15), (5, .int x_12), (4, .int 0), (0, .ref w0), (1, .int 4), (2, .int d), (3, .int sec)]) hx hb dX5_most_138 hl (k := 1) rfl ex_36.symm (by decide) rfl (fun ls hl => ?_)
                        refine lv_goto (tgt := 98) hx hb dX5_most_141 (by decide) ?_
                        exact ih x_36 v_15 (g_14) _ _ _ (hP.sub [0, 1, 2] rfl) (hD.sub [0, 1, 2] (by decide) rfl) hS (lv_sub hl [0, 2, 3, 4, 5, 6, 7, 8] rfl) (dw_lo hloi_98 qx_36) (dw_hn hni_98 qx_36)
                      · exfalso; omega
                      · refine lv_astoreN (lv' := [(8, .null), (7, .int i_98), (6, .int v_15), (5, .int x_12), (4, .int 0), (0, .ref w0), (1, .int 4), (2, .int d), (3, .int sec)]) hx hb dX5_most_115 hl (by decide) rfl (fun ls hl => ?_)
                        refine lv_aloadN hx hb dX5_most_117 (lv_at hl 0 rfl) ?_
                        refine lv_ifnullN (tgt := 138) hx hb dX5_most_119 (by decide) ?_
                        obtain ⟨x_37, ex_37⟩ : ∃ y : Int32, y = i_98 + 1 := ⟨_, rfl⟩
                        have qx_37 : x_37.toInt = i_98.toInt + 1 := dw_inc ex_37 fc_18
                        refine lv_iinc (v := x_37) (lv' := [(7, .int x_37), (8, .null), (6, .int v_15), (5, .int x_12), (4, .int 0), (0, .ref w0), (1, .int 4), (2, .int d), (3, .int sec)]) hx hb dX5_most_138 hl (k := 1) rfl ex_37.symm (by decide) rfl (fun ls hl => ?_)
                        refine lv_goto (tgt := 98) hx hb dX5_most_141 (by decide) ?_
                        exact ih x_37 v_15 (g_14) _ _ _ (hP.sub [0, 1, 2] rfl) (hD.sub [0, 1, 2] (by decide) rfl) hS (lv_sub hl [0, 2, 3, 4, 5, 6, 7, 8] rfl) (dw_lo hloi_98 qx_37) (dw_hn hni_98 qx_37)
                      · refine W.eq (g2 := F0 m 115 ls (.ref u_35 :: [])) rfl ?_
                        obtain ⟨hku_35, hau_35, htu_35⟩ := zPu_pr (hZ.kept hS) huu_35
                        refine lv_astore (lv' := [(8, .ref u_35), (7, .int i_98), (6, .int v_15), (5, .int x_12), (4, .int 0), (0, .ref w0), (1, .int 4), (2, .int d), (3, .int sec)]) hx hb dX5_most_115 hl (by decide) rfl (fun ls hl => ?_)
                        refine lv_aload hx hb dX5_most_117 (lv_at hl 0 rfl) ?_
                        refine lv_ifnull hx hb dX5_most_119 ?_
                        refine lv_iload hx hb dX5_most_122 (lv_at hl 2 rfl) ?_
                        refine lv_aload_n hx hb dX5_most_124 rfl (lv_at hl 5 rfl) ?_
                        refine lv_aload hx hb dX5_most_125 (lv_at hl 0 rfl) ?_
                        refine lv_iload_n hx hb dX5_most_127 rfl (lv_at hl 6 rfl) ?_
                        refine lv_iload_n hx hb dX5_most_128 rfl (lv_at hl 7 rfl) ?_
                        refine lv_iload_n hx hb dX5_most_129 rfl (lv_at hl 8 rfl) ?_
                        skip
                        refine zw_V (As := [.ref u_35, .int 4, .int d, .int sec]) (rest := [.int v_15]) (wr := []) ⟨hx, hb, hml, hown, hts⟩ (c_W_mostBy_4 l D cI cJ cZ cP cS po w0 wk wl wc wp (wn) (wh) (wg) fp g_14 (d) (sec) u_35 (kiu_35) (au_35) (tu_35) huu_35 ⟨by omega, by omega, by omega, by omega⟩ hy0 hy1 hy2 hy3 hy4 hy5 hwp hy7 hy8 H.size) (cwV 4 hts gX5_most_X5_mostBy rfl rfl rfl ⟨rfl, dh_X5_mostBy⟩ ⟨Nat.le_of_ble_eq_true rfl, Nat.le_of_ble_eq_true rfl⟩) hK hN (hZ.kept hS) hP hD hS hA [0, 1, 2] [] rfl rfl (by decide) (by decide) (by decide) (va_recv (q := (RX5, TX5, 7)) hK hP (ci := 5) (q0 := 0) rfl rfl) rfl hl.1 rfl (Nat.le_of_ble_eq_true rfl) dX5_most_130 ⟨Nat.le_of_ble_eq_true rfl, Nat.le_of_ble_eq_true rfl⟩ (fun r_38 u_39 H locs hr_38 hP hD hS => ?_)
                        obtain ⟨q_40, rfl⟩ : ∃ z, z = u_39 := ⟨_, rfl⟩
                        have h9R := zRe (ws' := [(w0, .inr (5, [.ref wk, .ref wl, .ref wc, .ref wp, .int wn, .int wh, .int wg])), (wk, .inl (cI, 125, .inl q_40)), (wp, .inl (cP, 8, .inr (.inr (.inr (.inr fp)))))]) hP hD rfl
                        clear hP hD
                        obtain ⟨hP, hD⟩ := h9R
                        refine va_mmax hx hb (hml.trans hl.1.symm) hown (hts (.methodLink RX5 52 Lib.Math.max.name) (List.mem_of_getElem? (i := 5) rfl)) (hts _ (List.mem_of_getElem? (i := 6) rfl)) (hts _ (List.mem_of_getElem? (i := 7) rfl)) (hts _ (List.mem_of_getElem? (i := 8) rfl)) (Nat.le_of_ble_eq_true rfl) (Nat.le_of_ble_eq_true rfl) (Nat.le_of_ble_eq_true rfl) (Nat.le_of_ble_eq_true rfl) dX5_most_133 ?_
                        refine lv_topi (fun x_41 ex_41 => ?_)
                        have qx_41 := zf_max ex_41 (x1 := v_15.toInt) (y1 := r_38.toInt) rfl rfl
                        refine lv_istore (lv' := [(6, .int x_41), (8, .ref u_35), (7, .int i_98), (5, .int x_12), (4, .int 0), (0, .ref w0), (1, .int 4), (2, .int d), (3, .int sec)]) hx hb dX5_most_136 hl (by decide) rfl (fun ls hl => ?_)
                        obtain ⟨x_42, ex_42⟩ : ∃ y : Int32, y = i_98 + 1 := ⟨_, rfl⟩
                        have qx_42 : x_42.toInt = i_98.toInt + 1 := dw_inc ex_42 fc_18
                        refine lv_iinc (v := x_42) (lv' := [(7, .int x_42), (6, .int x_41), (8, .ref u_35), (5, .int x_12), (4, .int 0), (0, .ref w0), (1, .int 4), (2, .int d), (3, .int sec)]) hx hb dX5_most_138 hl (k := 2) rfl ex_42.symm (by decide) rfl (fun ls hl => ?_)
                        refine lv_goto (tgt := 98) hx hb dX5_most_141 (by decide) ?_
                        exact ih x_42 x_41 (q_40) _ _ _ (hP.sub [0, 1, 2] rfl) (hD.sub [0, 1, 2] (by decide) rfl) hS (lv_sub hl [0, 1, 3, 4, 5, 6, 7, 8] rfl) (dw_lo hloi_98 qx_42) (dw_hn hni_98 qx_42)
                · exact absurd c_13 (by decide)
              · have fc_10 : x_9.toInt ≤ sec.toInt := zf_nlt c_10 rfl rfl
                refine lv_iconst (v := 1) hx hb dX5_most_53 (by decide) ?_
                refine lv_goto (tgt := 58) hx hb dX5_most_54 (by decide) ?_
                refine lv_istore (lv' := [(4, .int 1), (0, .ref w0), (1, .int 4), (2, .int d), (3, .int sec)]) hx hb dX5_most_58 hl (by decide) rfl (fun ls hl => ?_)
                refine lv_iload_n hx hb dX5_most_60 rfl (lv_at hl 2 rfl) ?_
                refine lv_bipush (v := 25) hx hb dX5_most_61 (by decide) ?_
                refine lv_imul hx hb dX5_most_63 ?_
                refine lv_topi (fun y_43 ey_43 => ?_)
                obtain rfl : y_43 = 100 := ey_43.trans (by decide)
                refine lv_iload_n hx hb dX5_most_64 rfl (lv_at hl 3 rfl) ?_
                refine lv_iadd hx hb dX5_most_65 ?_
                refine lv_topi (fun x_44 ex_44 => ?_)
                have qx_44 : x_44.toInt = 100 + d.toInt := by rw [ex_44]; exact zf_add (by decide) rfl (by omega) (by omega)
                refine lv_istore (lv' := [(5, .int x_44), (4, .int 1), (0, .ref w0), (1, .int 4), (2, .int d), (3, .int sec)]) hx hb dX5_most_66 hl (by decide) rfl (fun ls hl => ?_)
                refine lv_iload hx hb dX5_most_68 (lv_at hl 1 rfl) ?_
                refine lv_if_eq (tgt := 92) hx hb dX5_most_70 (by decide) (fun c_45 => ?_) (fun c_45 => ?_)
                · exact absurd c_45 (by decide)
                · refine lv_aload_n hx hb dX5_most_73 rfl (lv_at hl 2 rfl) ?_
                  refine va_get (D := D) (ci := 5) (v := .ref wk) (C := RX5) (T := TX5) (N := 7) hx hb hts hi_X5_most_5 hown hK hP 0 rfl rfl 0 (by decide) (hts (.fieldLink RX5 9 "TheLiningsInIt$Ways" "knownMost" "[I") (List.mem_of_getElem? (i := 3) rfl)) (fun _ h9 => h9) rfl dX5_most_74 ?_
                  refine lv_iload hx hb dX5_most_77 (lv_at hl 0 rfl) ?_
                  refine va_iald hx hb hK hP 1 0 rfl rfl (zf_in (by omega) (by omega)) dX5_most_79 ?_
                  refine lv_topi (fun x_46 ex_46 => ?_)
                  refine lv_iconst (v := (-1)) hx hb dX5_most_80 (by decide) ?_
                  refine lv_icmp_eq (tgt := 92) hx hb dX5_most_81 (by decide) (fun c_47 => ?_) (fun c_47 => ?_)
                  · have fc_47 : x_46.toInt = (-1) := zf_eq c_47 rfl (by decide)
                    refine lv_iconst (v := 0) hx hb dX5_most_92 (by decide) ?_
                    refine lv_istore (lv' := [(6, .int 0), (5, .int x_44), (4, .int 1), (0, .ref w0), (1, .int 4), (2, .int d), (3, .int sec)]) hx hb dX5_most_93 hl (by decide) rfl (fun ls hl => ?_)
                    refine lv_iconst (v := 0) hx hb dX5_most_95 (by decide) ?_
                    refine lv_istore (lv' := [(7, .int 0), (6, .int 0), (5, .int x_44), (4, .int 1), (0, .ref w0), (1, .int 4), (2, .int d), (3, .int sec)]) hx hb dX5_most_96 hl (by decide) rfl (fun ls hl => ?_)
                    obtain ⟨i_98, hi_98⟩ : ∃ i : Int32, i = 0 := ⟨_, rfl⟩
                    replace hl : lv_has ls 9 [(7, .int i_98), (6, .int 0), (5, .int x_44), (4, .int 1), (0, .ref w0), (1, .int 4), (2, .int d), (3, .int sec)] := by rw [hi_98]; exact lv_sub hl [0, 1, 2, 3, 4, 5, 6, 7] rfl
                    have h1i_98 : i_98.toInt = 0 := by rw [hi_98]; decide
                    obtain ⟨nfu, hni_98⟩ : ∃ nq9 : Nat, wn.toInt ≤ i_98.toInt + (nq9 : Int) := ⟨((wn.toInt : Int) - 0).toNat, by omega⟩
                    have hloi_98 : 0 ≤ i_98.toInt := by omega
                    obtain ⟨g_48, hg_48⟩ : ∃ g : Nat → Int32, g = fk := ⟨_, rfl⟩
                    replace hP : va_P D vwCl [(w0, .inr (5, [.ref wk, .ref wl, .ref wc, .ref wp, .int wn, .int wh, .int wg])), (wk, .inl (cI, 125, .inl g_48)), (wp, .inl (cP, 8, .inr (.inr (.inr (.inr fp)))))] H := by rw [hg_48]; exact hP
                    replace hD : va_D (va_A [(w0, .inr (5, [.ref wk, .ref wl, .ref wc, .ref wp, .int wn, .int wh, .int wg])), (wk, .inl (cI, 125, .inl fk)), (wp, .inl (cP, 8, .inr (.inr (.inr (.inr fp)))))] s.heap.size) [(w0, .inr (5, [.ref wk, .ref wl, .ref wc, .ref wp, .int wn, .int wh, .int wg])), (wk, .inl (cI, 125, .inl g_48)), (wp, .inl (cP, 8, .inr (.inr (.inr (.inr fp)))))] := by rw [hg_48]; exact hD
                    obtain ⟨v_49, hv_49⟩ : ∃ g : Int32, g = 0 := ⟨_, rfl⟩
                    replace hl : lv_has ls 9 [(7, .int i_98), (6, .int v_49), (5, .int x_44), (4, .int 1), (0, .ref w0), (1, .int 4), (2, .int d), (3, .int sec)] := by rw [hv_49]; exact hl
                    clear h1i_98 hi_98 hg_48 hv_49
                    skip
                    revert hni_98
                    revert hloi_98
                    revert hl
                    revert hS
                    revert hD
                    revert hP
                    revert ls
                    revert locs
                    revert H
                    revert g_48
                    revert v_49
                    revert i_98
                    induction nfu with
                    | zero =>
                      intro i_98 v_49 g_48 H locs ls hP hD hS hl hloi_98 hni_98
                      have hzi_98 : wn.toInt ≤ i_98.toInt := by omega
                      refine lv_iload hx hb dX5_most_98 (lv_at hl 0 rfl) ?_
                      refine lv_aload_n hx hb dX5_most_100 rfl (lv_at hl 4 rfl) ?_
                      refine va_get (D := D) (ci := 5) (v := .int wn) (C := RX5) (T := TX5) (N := 7) hx hb hts hi_X5_most_5 hown hK hP 0 rfl rfl 4 (by decide) (hts (.fieldLink RX5 27 "TheLiningsInIt$Ways" "count" "I") (List.mem_of_getElem? (i := 4) rfl)) (fun _ h9 => h9) rfl dX5_most_101 ?_
                      refine lv_icmp_ge (tgt := 144) hx hb dX5_most_104 (by decide) (fun c_50 => ?_) (fun c_50 => ?_)
                      · have fc_50 : wn.toInt ≤ i_98.toInt := zf_le c_50 rfl rfl
                        refine lv_iload hx hb dX5_most_144 (lv_at hl 3 rfl) ?_
                        refine lv_if_eq (tgt := 158) hx hb dX5_most_146 (by decide) (fun c_51 => ?_) (fun c_51 => ?_)
                        · exact absurd c_51 (by decide)
                        · refine lv_aload_n hx hb dX5_most_149 rfl (lv_at hl 4 rfl) ?_
                          refine va_get (D := D) (ci := 5) (v := .ref wk) (C := RX5) (T := TX5) (N := 7) hx hb hts hi_X5_most_5 hown hK hP 0 rfl rfl 0 (by decide) (hts (.fieldLink RX5 9 "TheLiningsInIt$Ways" "knownMost" "[I") (List.mem_of_getElem? (i := 3) rfl)) (fun _ h9 => h9) rfl dX5_most_150 ?_
                          refine lv_iload hx hb dX5_most_153 (lv_at hl 2 rfl) ?_
                          refine lv_iload hx hb dX5_most_155 (lv_at hl 1 rfl) ?_
                          refine va_iast hx hb hK hP hD hS 1 0 rfl rfl (zf_in (by omega) (by omega)) dX5_most_157 (fun H locs hP hD hS => ?_)
                          obtain ⟨g_52, hg_52⟩ : ∃ g : Nat → Int32, g = upd g_48 x_44.toNatClampNeg v_49 := ⟨_, rfl⟩
                          rw [← hg_52] at hP hD
                          clear hg_52
                          have h9R := zRe (ws' := [(w0, .inr (5, [.ref wk, .ref wl, .ref wc, .ref wp, .int wn, .int wh, .int wg])), (wk, .inl (cI, 125, .inl g_52)), (wp, .inl (cP, 8, .inr (.inr (.inr (.inr fp)))))]) hP hD rfl
                          clear hP hD
                          obtain ⟨hP, hD⟩ := h9R
                          refine lv_iload hx hb dX5_most_158 (lv_at hl 1 rfl) ?_
                          exact W.iret (v := v_49) hx hb hr (fun t ht hW => ⟨⟨v_49, g_52, rfl, trivial, zRet ht hP hD [0, 1, 2] (by decide) rfl⟩, hS.F ht⟩) hS.2.2 dX5_most_160
                      · exfalso; have fc_50 : i_98.toInt < wn.toInt := zf_nle c_50 rfl rfl; omega
                    | succ nfu ih =>
                      intro i_98 v_49 g_48 H locs ls hP hD hS hl hloi_98 hni_98
                      refine lv_iload hx hb dX5_most_98 (lv_at hl 0 rfl) ?_
                      refine lv_aload_n hx hb dX5_most_100 rfl (lv_at hl 4 rfl) ?_
                      refine va_get (D := D) (ci := 5) (v := .int wn) (C := RX5) (T := TX5) (N := 7) hx hb hts hi_X5_most_5 hown hK hP 0 rfl rfl 4 (by decide) (hts (.fieldLink RX5 27 "TheLiningsInIt$Ways" "count" "I") (List.mem_of_getElem? (i := 4) rfl)) (fun _ h9 => h9) rfl dX5_most_101 ?_
                      refine lv_icmp_ge (tgt := 144) hx hb dX5_most_104 (by decide) (fun c_53 => ?_) (fun c_53 => ?_)
                      · have fc_53 : wn.toInt ≤ i_98.toInt := zf_le c_53 rfl rfl
                        refine lv_iload hx hb dX5_most_144 (lv_at hl 3 rfl) ?_
                        refine lv_if_eq (tgt := 158) hx hb dX5_most_146 (by decide) (fun c_54 => ?_) (fun c_54 => ?_)
                        · exact absurd c_54 (by decide)
                        · refine lv_aload_n hx hb dX5_most_149 rfl (lv_at hl 4 rfl) ?_
                          refine va_get (D := D) (ci := 5) (v := .ref wk) (C := RX5) (T := TX5) (N := 7) hx hb hts hi_X5_most_5 hown hK hP 0 rfl rfl 0 (by decide) (hts (.fieldLink RX5 9 "TheLiningsInIt$Ways" "knownMost" "[I") (List.mem_of_getElem? (i := 3) rfl)) (fun _ h9 => h9) rfl dX5_most_150 ?_
                          refine lv_iload hx hb dX5_most_153 (lv_at hl 2 rfl) ?_
                          refine lv_iload hx hb dX5_most_155 (lv_at hl 1 rfl) ?_
                          refine va_iast hx hb hK hP hD hS 1 0 rfl rfl (zf_in (by omega) (by omega)) dX5_most_157 (fun H locs hP hD hS => ?_)
                          obtain ⟨g_55, hg_55⟩ : ∃ g : Nat → Int32, g = upd g_48 x_44.toNatClampNeg v_49 := ⟨_, rfl⟩
                          rw [← hg_55] at hP hD
                          clear hg_55
                          have h9R := zRe (ws' := [(w0, .inr (5, [.ref wk, .ref wl, .ref wc, .ref wp, .int wn, .int wh, .int wg])), (wk, .inl (cI, 125, .inl g_55)), (wp, .inl (cP, 8, .inr (.inr (.inr (.inr fp)))))]) hP hD rfl
                          clear hP hD
                          obtain ⟨hP, hD⟩ := h9R
                          refine lv_iload hx hb dX5_most_158 (lv_at hl 1 rfl) ?_
                          exact W.iret (v := v_49) hx hb hr (fun t ht hW => ⟨⟨v_49, g_55, rfl, trivial, zRet ht hP hD [0, 1, 2] (by decide) rfl⟩, hS.F ht⟩) hS.2.2 dX5_most_160
                      · have fc_53 : i_98.toInt < wn.toInt := zf_nle c_53 rfl rfl
                        refine lv_aload_n hx hb dX5_most_107 rfl (lv_at hl 4 rfl) ?_
                        refine lv_iload hx hb dX5_most_108 (lv_at hl 0 rfl) ?_
                        refine lv_iload_n hx hb dX5_most_110 rfl (lv_at hl 6 rfl) ?_
                        refine lv_iload_n hx hb dX5_most_111 rfl (lv_at hl 7 rfl) ?_
                        refine zc_Vq (As := [.int i_98, .int d, .int sec]) (rest := []) ⟨hx, hb, hml, hown, hts⟩ (c_W_mayBeAt l D cI cJ cZ cP cS po w0 wk wl wc wp (wn) (wh) (wg) fp (i_98) (d) (sec) hy0 hy1 hy2 hy3 hy4 hy5 hwp) (cwV 3 hts gX5_most_X5_mayBeAt rfl rfl rfl ⟨rfl, dh_X5_mayBeAt⟩ ⟨Nat.le_of_ble_eq_true rfl, Nat.le_of_ble_eq_true rfl⟩) hK hN (hZ.kept hS) hP (hP.sub [0, 2] rfl) (va_recv (q := (RX5, TX5, 7)) hK hP (ci := 5) (q0 := 0) rfl rfl) rfl hl.1 rfl (Nat.le_of_ble_eq_true rfl) dX5_most_112 ⟨Nat.le_of_ble_eq_true rfl, Nat.le_of_ble_eq_true rfl⟩ (fun r_56 hr_56 => ?_)
                        rcases hr_56 with ⟨rfl, g_57⟩ | ⟨rfl, g_58, g_59⟩ | ⟨rfl, g_60, g_61⟩ | ⟨rfl, g_62, g_63, g_64⟩ | ⟨rfl, g_65, g_66, g_67⟩ | ⟨⟨u_71, kiu_71, au_71, tu_71, rfl, huu_71⟩, g_68, g_69, g_70⟩
                        · exfalso; omega
                        · exfalso; omega
                        · refine lv_astoreN (lv' := [(8, .null), (7, .int i_98), (6, .int v_49), (5, .int x_44), (4, .int 1), (0, .ref w0), (1, .int 4), (2, .int d), (3, .int sec)]) hx hb dX5_most_115 hl (by decide) rfl (fun ls hl => ?_)
                          refine lv_aloadN hx hb dX5_most_117 (lv_at hl 0 rfl) ?_
                          refine lv_ifnullN (tgt := 138) hx hb dX5_most_119 (by decide) ?_
                          obtain ⟨x_72, ex_72⟩ : ∃ y : Int32, y = i_98 + 1 := ⟨_, rfl⟩
                          have qx_72 : x_72.toInt = i_98.toInt + 1 := dw_inc ex_72 fc_53
                          refine lv_iinc (v := x_72) (lv' := [(7, .int x_72), (8, .null), (6, .int v_49), (5, .int x_44), (4, .int 1), (0, .ref w0), (1, .int 4), (2, .int d), (3, .int sec)]) hx hb dX5_most_138 hl (k := 1) rfl ex_72.symm (by decide) rfl (fun ls hl => ?_)
                          refine lv_goto (tgt := 98) hx hb dX5_most_141 (by decide) ?_
                          exact ih x_72 v_49 (g_48) _ _ _ (hP.sub [0, 1, 2] rfl) (hD.sub [0, 1, 2] (by decide) rfl) hS (lv_sub hl [0, 2, 3, 4, 5, 6, 7, 8] rfl) (dw_lo hloi_98 qx_72) (dw_hn hni_98 qx_72)
                        · exfalso; omega
                        · refine lv_astoreN (lv' := [(8, .null), (7, .int i_98), (6, .int v_49), (5, .int x_44), (4, .int 1), (0, .ref w0), (1, .int 4), (2, .int d), (3, .int sec)]) hx hb dX5_most_115 hl (by decide) rfl (fun ls hl => ?_)
                          refine lv_aloadN hx hb dX5_most_117 (lv_at hl 0 rfl) ?_
                          refine lv_ifnullN (tgt := 138) hx hb dX5_most_119 (by decide) ?_
                          obtain ⟨x_73, ex_73⟩ : ∃ y : Int32, y = i_98 + 1 := ⟨_, rfl⟩
                          have qx_73 : x_73.toInt = i_98.toInt + 1 := dw_inc ex_73 fc_53
                          refine lv_iinc (v := x_73) (lv' := [(7, .int x_73), (8, .null), (6, .int v_49), (5, .int x_44), (4, .int 1), (0, .ref w0), (1, .int 4), (2, .int d), (3, .int sec)]) hx hb dX5_most_138 hl (k := 1) rfl ex_73.symm (by decide) rfl (fun ls hl => ?_)
                          refine lv_goto (tgt := 98) hx hb dX5_most_141 (by decide) ?_
                          exact ih x_73 v_49 (g_48) _ _ _ (hP.sub [0, 1, 2] rfl) (hD.sub [0, 1, 2] (by decide) rfl) hS (lv_sub hl [0, 2, 3, 4, 5, 6, 7, 8] rfl) (dw_lo hloi_98 qx_73) (dw_hn hni_98 qx_73)
                        · refine W.eq (g2 := F0 m 115 ls (.ref u_71 :: [])) rfl ?_
                          obtain ⟨hku_71, hau_71, htu_71⟩ := zPu_pr (hZ.kept hS) huu_71
                          refine lv_astore (lv' := [(8, .ref u_71), (7, .int i_98), (6, .int v_49), (5, .int x_44), (4, .int 1), (0, .ref w0), (1, .int 4), (2, .int d), (3, .int sec)]) hx hb dX5_most_115 hl (by decide) rfl (fun ls hl => ?_)
                          refine lv_aload hx hb dX5_most_117 (lv_at hl 0 rfl) ?_
                          refine lv_ifnull hx hb dX5_most_119 ?_
                          refine lv_iload hx hb dX5_most_122 (lv_at hl 2 rfl) ?_
                          refine lv_aload_n hx hb dX5_most_124 rfl (lv_at hl 5 rfl) ?_
                          refine lv_aload hx hb dX5_most_125 (lv_at hl 0 rfl) ?_
                          refine lv_iload_n hx hb dX5_most_127 rfl (lv_at hl 6 rfl) ?_
                          refine lv_iload_n hx hb dX5_most_128 rfl (lv_at hl 7 rfl) ?_
                          refine lv_iload_n hx hb dX5_most_129 rfl (lv_at hl 8 rfl) ?_
                          skip
                          refine zw_V (As := [.ref u_71, .int 4, .int d, .int sec]) (rest := [.int v_49]) (wr := []) ⟨hx, hb, hml, hown, hts⟩ (c_W_mostBy_4 l D cI cJ cZ cP cS po w0 wk wl wc wp (wn) (wh) (wg) fp g_48 (d) (sec) u_71 (kiu_71) (au_71) (tu_71) huu_71 ⟨by omega, by omega, by omega, by omega⟩ hy0 hy1 hy2 hy3 hy4 hy5 hwp hy7 hy8 H.size) (cwV 4 hts gX5_most_X5_mostBy rfl rfl rfl ⟨rfl, dh_X5_mostBy⟩ ⟨Nat.le_of_ble_eq_true rfl, Nat.le_of_ble_eq_true rfl⟩) hK hN (hZ.kept hS) hP hD hS hA [0, 1, 2] [] rfl rfl (by decide) (by decide) (by decide) (va_recv (q := (RX5, TX5, 7)) hK hP (ci := 5) (q0 := 0) rfl rfl) rfl hl.1 rfl (Nat.le_of_ble_eq_true rfl) dX5_most_130 ⟨Nat.le_of_ble_eq_true rfl, Nat.le_of_ble_eq_true rfl⟩ (fun r_74 u_75 H locs hr_74 hP hD hS => ?_)
                          obtain ⟨q_76, rfl⟩ : ∃ z, z = u_75 := ⟨_, rfl⟩
                          have h9R := zRe (ws' := [(w0, .inr (5, [.ref wk, .ref wl, .ref wc, .ref wp, .int wn, .int wh, .int wg])), (wk, .inl (cI, 125, .inl q_76)), (wp, .inl (cP, 8, .inr (.inr (.inr (.inr fp)))))]) hP hD rfl
                          clear hP hD
                          obtain ⟨hP, hD⟩ := h9R
                          refine va_mmax hx hb (hml.trans hl.1.symm) hown (hts (.methodLink RX5 52 Lib.Math.max.name) (List.mem_of_getElem? (i := 5) rfl)) (hts _ (List.mem_of_getElem? (i := 6) rfl)) (hts _ (List.mem_of_getElem? (i := 7) rfl)) (hts _ (List.mem_of_getElem? (i := 8) rfl)) (Nat.le_of_ble_eq_true rfl) (Nat.le_of_ble_eq_true rfl) (Nat.le_of_ble_eq_true rfl) (Nat.le_of_ble_eq_true rfl) dX5_most_133 ?_
                          refine lv_topi (fun x_77 ex_77 => ?_)
                          have qx_77 := zf_max ex_77 (x1 := v_49.toInt) (y1 := r_74.toInt) rfl rfl
                          refine lv_istore (lv' := [(6, .int x_77), (8, .ref u_71), (7, .int i_98), (5, .int x_44), (4, .int 1), (0, .ref w0), (1, .int 4), (2, .int d), (3, .int sec)]) hx hb dX5_most_136 hl (by decide) rfl (fun ls hl => ?_)
                          obtain ⟨x_78, ex_78⟩ : ∃ y : Int32, y = i_98 + 1 := ⟨_, rfl⟩
                          have qx_78 : x_78.toInt = i_98.toInt + 1 := dw_inc ex_78 fc_53
                          refine lv_iinc (v := x_78) (lv' := [(7, .int x_78), (6, .int x_77), (8, .ref u_71), (5, .int x_44), (4, .int 1), (0, .ref w0), (1, .int 4), (2, .int d), (3, .int sec)]) hx hb dX5_most_138 hl (k := 2) rfl ex_78.symm (by decide) rfl (fun ls hl => ?_)
                          refine lv_goto (tgt := 98) hx hb dX5_most_141 (by decide) ?_
                          exact ih x_78 x_77 (q_76) _ _ _ (hP.sub [0, 1, 2] rfl) (hD.sub [0, 1, 2] (by decide) rfl) hS (lv_sub hl [0, 1, 3, 4, 5, 6, 7, 8] rfl) (dw_lo hloi_98 qx_78) (dw_hn hni_98 qx_78)
                  · have fc_47 : x_46.toInt ≠ (-1) := zf_ne c_47 rfl (by decide)
                    refine lv_aload_n hx hb dX5_most_84 rfl (lv_at hl 2 rfl) ?_
                    refine va_get (D := D) (ci := 5) (v := .ref wk) (C := RX5) (T := TX5) (N := 7) hx hb hts hi_X5_most_5 hown hK hP 0 rfl rfl 0 (by decide) (hts (.fieldLink RX5 9 "TheLiningsInIt$Ways" "knownMost" "[I") (List.mem_of_getElem? (i := 3) rfl)) (fun _ h9 => h9) rfl dX5_most_85 ?_
                    refine lv_iload hx hb dX5_most_88 (lv_at hl 0 rfl) ?_
                    refine va_iald hx hb hK hP 1 0 rfl rfl (zf_in (by omega) (by omega)) dX5_most_90 ?_
                    refine lv_topi (fun x_79 ex_79 => ?_)
                    exact W.iret (v := x_79) hx hb hr (fun t ht hW => ⟨⟨x_79, fk, rfl, trivial, zRet ht hP hD [0, 1, 2] (by decide) rfl⟩, hS.F ht⟩) hS.2.2 dX5_most_91
            · exact absurd c_8 (by decide)
        · exfalso; have fc_4 : 24 < d.toInt := zf_nle c_4 rfl (by decide); omega
end
section
def wsX5_next_r1 : List Cond := (Cond.fieldLink RX5 27 "TheLiningsInIt$Ways" "count" "I") :: (Cond.methodLink RX5 82 yX5_mayBeAt) :: (Cond.instanceMethod yX5_mayBeAt) :: (Cond.selects RX5 yX5_mayBeAt yX5_mayBeAt) :: (Cond.initialized RX5) :: (Cond.code yX5_mayBeAt cX5_mayBeAt 5 (some (.object "TheLiningsInIt$Pull"))) :: (Cond.fieldLink RX5 23 "TheLiningsInIt$Ways" "pulls" "[LTheLiningsInIt$Pull;") :: (Cond.static yX7_within) :: (Cond.initialized RX7) :: (Cond.code yX7_within cX7_within 3 (some .boolean)) :: (Cond.methodLink RX5 75 yX2_mayBe) :: (Cond.instanceMethod yX2_mayBe) :: (Cond.selects RX2 yX2_mayBe yX2_mayBe) :: (Cond.initialized RX2) :: (Cond.code yX2_mayBe cX2_mayBe 3 (some .boolean)) :: (Cond.fieldLink RX2 18 "TheLiningsInIt$Pull" "takes" "I") :: (Cond.methodLink RX5 86 yX5_mostBy) :: (Cond.instanceMethod yX5_mostBy) :: (Cond.selects RX5 yX5_mostBy yX5_mostBy) :: (Cond.code yX5_mostBy cX5_mostBy 8 (some .int)) :: (Cond.fieldLink RX5 31 "TheLiningsInIt$Ways" "hurry" "I") :: (Cond.fieldLink RX5 49 "TheLiningsInIt$Pull" "takes" "I") :: (Cond.methodLink RX5 90 yX2_waysAt) :: (Cond.instanceMethod yX2_waysAt) :: []
def wsX5_next_r2 : List Cond := (Cond.selects RX2 yX2_waysAt yX2_waysAt) :: (Cond.code yX2_waysAt cX2_waysAt 3 (some .int)) :: (Cond.fieldLink RX2 9 "TheLiningsInIt$Pull" "kind" "I") :: (Cond.methodLink RX2 33 Lib.Math.min.name) :: (Cond.static Lib.Math.min.name) :: (Cond.initialized "java/lang/Math") :: (Cond.code Lib.Math.min.name Lib.Math.min.code 2 (some .int)) :: (Cond.methodLink RX2 39 Lib.Math.max.name) :: (Cond.static Lib.Math.max.name) :: (Cond.code Lib.Math.max.name Lib.Math.max.code 2 (some .int)) :: (Cond.methodLink RX2 29 yX2_calmWaysAt) :: (Cond.instanceMethod yX2_calmWaysAt) :: (Cond.selects RX2 yX2_calmWaysAt yX2_calmWaysAt) :: (Cond.code yX2_calmWaysAt cX2_calmWaysAt 2 (some .int)) :: (Cond.fieldLink RX2 15 "TheLiningsInIt$Pull" "a" "I") :: (Cond.methodLink RX5 93 yX2_shallower) :: (Cond.instanceMethod yX2_shallower) :: (Cond.selects RX2 yX2_shallower yX2_shallower) :: (Cond.code yX2_shallower cX2_shallower 2 (some .int)) :: (Cond.methodLink RX2 42 yX2_step) :: (Cond.instanceMethod yX2_step) :: (Cond.selects RX2 yX2_step yX2_step) :: (Cond.code yX2_step cX2_step 1 (some .int)) :: (Cond.methodLink RX5 97 yX5_most) :: []
def wsX5_next_r3 : List Cond := (Cond.instanceMethod yX5_most) :: (Cond.selects RX5 yX5_most yX5_most) :: (Cond.methodLink RX5 101 yX2_deeper) :: (Cond.instanceMethod yX2_deeper) :: (Cond.selects RX2 yX2_deeper yX2_deeper) :: (Cond.code yX2_deeper cX2_deeper 4 (some .int)) :: (Cond.code yX5_most cX5_most 9 (some .int)) :: (Cond.fieldLink RX5 79 "TheLiningsInIt$Ways" "POWERS" "[I") :: (Cond.fieldLink RX5 34 "TheLiningsInIt$Ways" "longest" "I") :: (Cond.fieldLink RX5 9 "TheLiningsInIt$Ways" "knownMost" "[I") :: (Cond.methodLink RX5 52 Lib.Math.max.name) :: []
def wsX5_next : List Cond := (.code yX5_next cX5_next 9 (some .int)) :: ((wsX5_next_r1 ++ (wsX5_next_r2 ++ wsX5_next_r3)) ++ wsX50 ++ wsX20)
def wsX5_least_r1 : List Cond := (Cond.fieldLink RX5 34 "TheLiningsInIt$Ways" "longest" "I") :: (Cond.fieldLink RX5 15 "TheLiningsInIt$Ways" "knownLeast" "[I") :: (Cond.fieldLink RX5 27 "TheLiningsInIt$Ways" "count" "I") :: (Cond.methodLink RX5 110 Lib.Math.min.name) :: (Cond.static Lib.Math.min.name) :: (Cond.initialized "java/lang/Math") :: (Cond.code Lib.Math.min.name Lib.Math.min.code 2 (some .int)) :: (Cond.methodLink RX5 104 yX5_leastAtOnce) :: (Cond.instanceMethod yX5_leastAtOnce) :: (Cond.selects RX5 yX5_leastAtOnce yX5_leastAtOnce) :: (Cond.initialized RX5) :: (Cond.code yX5_leastAtOnce cX5_leastAtOnce 3 (some .int)) :: (Cond.fieldLink RX5 79 "TheLiningsInIt$Ways" "POWERS" "[I") :: (Cond.fieldLink RX5 18 "TheLiningsInIt$Ways" "costs" "[I") :: (Cond.methodLink RX5 113 yX5_headIsCheapest) :: (Cond.instanceMethod yX5_headIsCheapest) :: (Cond.selects RX5 yX5_headIsCheapest yX5_headIsCheapest) :: (Cond.code yX5_headIsCheapest cX5_headIsCheapest 2 (some .boolean)) :: (Cond.methodLink RX5 82 yX5_mayBeAt) :: (Cond.instanceMethod yX5_mayBeAt) :: (Cond.selects RX5 yX5_mayBeAt yX5_mayBeAt) :: (Cond.code yX5_mayBeAt cX5_mayBeAt 5 (some (.object "TheLiningsInIt$Pull"))) :: (Cond.fieldLink RX5 23 "TheLiningsInIt$Ways" "pulls" "[LTheLiningsInIt$Pull;") :: (Cond.static yX7_within) :: []
def wsX5_least_r2 : List Cond := (Cond.initialized RX7) :: (Cond.code yX7_within cX7_within 3 (some .boolean)) :: (Cond.methodLink RX5 75 yX2_mayBe) :: (Cond.instanceMethod yX2_mayBe) :: (Cond.selects RX2 yX2_mayBe yX2_mayBe) :: (Cond.initialized RX2) :: (Cond.code yX2_mayBe cX2_mayBe 3 (some .boolean)) :: (Cond.fieldLink RX2 18 "TheLiningsInIt$Pull" "takes" "I") :: (Cond.methodLink RX5 107 yX5_leastBy) :: (Cond.instanceMethod yX5_leastBy) :: (Cond.selects RX5 yX5_leastBy yX5_leastBy) :: (Cond.code yX5_leastBy cX5_leastBy 8 (some .int)) :: (Cond.fieldLink RX5 31 "TheLiningsInIt$Ways" "hurry" "I") :: (Cond.fieldLink RX5 49 "TheLiningsInIt$Pull" "takes" "I") :: (Cond.fieldLink RX5 46 "TheLiningsInIt$Pull" "kind" "I") :: (Cond.methodLink RX5 90 yX2_waysAt) :: (Cond.instanceMethod yX2_waysAt) :: (Cond.selects RX2 yX2_waysAt yX2_waysAt) :: (Cond.code yX2_waysAt cX2_waysAt 3 (some .int)) :: (Cond.fieldLink RX2 9 "TheLiningsInIt$Pull" "kind" "I") :: (Cond.methodLink RX2 33 Lib.Math.min.name) :: (Cond.methodLink RX2 39 Lib.Math.max.name) :: (Cond.static Lib.Math.max.name) :: (Cond.code Lib.Math.max.name Lib.Math.max.code 2 (some .int)) :: []
def wsX5_least_r3 : List Cond := (Cond.methodLink RX2 29 yX2_calmWaysAt) :: (Cond.instanceMethod yX2_calmWaysAt) :: (Cond.selects RX2 yX2_calmWaysAt yX2_calmWaysAt) :: (Cond.code yX2_calmWaysAt cX2_calmWaysAt 2 (some .int)) :: (Cond.fieldLink RX2 15 "TheLiningsInIt$Pull" "a" "I") :: (Cond.methodLink RX5 93 yX2_shallower) :: (Cond.instanceMethod yX2_shallower) :: (Cond.selects RX2 yX2_shallower yX2_shallower) :: (Cond.code yX2_shallower cX2_shallower 2 (some .int)) :: (Cond.methodLink RX2 42 yX2_step) :: (Cond.instanceMethod yX2_step) :: (Cond.selects RX2 yX2_step yX2_step) :: (Cond.code yX2_step cX2_step 1 (some .int)) :: (Cond.methodLink RX5 117 yX5_least) :: (Cond.instanceMethod yX5_least) :: (Cond.selects RX5 yX5_least yX5_least) :: (Cond.methodLink RX5 101 yX2_deeper) :: (Cond.instanceMethod yX2_deeper) :: (Cond.selects RX2 yX2_deeper yX2_deeper) :: (Cond.code yX2_deeper cX2_deeper 4 (some .int)) :: []
def wsX5_least : List Cond := (.code yX5_least cX5_least 9 (some .int)) :: ((wsX5_least_r1 ++ (wsX5_least_r2 ++ wsX5_least_r3)) ++ wsX50 ++ wsX20)
def wsX5_leastBy_r1 : List Cond := (Cond.fieldLink RX5 31 "TheLiningsInIt$Ways" "hurry" "I") :: (Cond.fieldLink RX5 49 "TheLiningsInIt$Pull" "takes" "I") :: (Cond.fieldLink RX5 46 "TheLiningsInIt$Pull" "kind" "I") :: (Cond.fieldLink RX5 79 "TheLiningsInIt$Ways" "POWERS" "[I") :: (Cond.fieldLink RX5 18 "TheLiningsInIt$Ways" "costs" "[I") :: (Cond.methodLink RX5 90 yX2_waysAt) :: (Cond.instanceMethod yX2_waysAt) :: (Cond.selects RX2 yX2_waysAt yX2_waysAt) :: (Cond.initialized RX2) :: (Cond.code yX2_waysAt cX2_waysAt 3 (some .int)) :: (Cond.fieldLink RX2 9 "TheLiningsInIt$Pull" "kind" "I") :: (Cond.methodLink RX2 33 Lib.Math.min.name) :: (Cond.static Lib.Math.min.name) :: (Cond.initialized "java/lang/Math") :: (Cond.code Lib.Math.min.name Lib.Math.min.code 2 (some .int)) :: (Cond.methodLink RX2 39 Lib.Math.max.name) :: (Cond.static Lib.Math.max.name) :: (Cond.code Lib.Math.max.name Lib.Math.max.code 2 (some .int)) :: (Cond.methodLink RX2 29 yX2_calmWaysAt) :: (Cond.instanceMethod yX2_calmWaysAt) :: (Cond.selects RX2 yX2_calmWaysAt yX2_calmWaysAt) :: (Cond.code yX2_calmWaysAt cX2_calmWaysAt 2 (some .int)) :: (Cond.fieldLink RX2 15 "TheLiningsInIt$Pull" "a" "I") :: (Cond.methodLink RX5 93 yX2_shallower) :: []
def wsX5_leastBy_r2 : List Cond := (Cond.instanceMethod yX2_shallower) :: (Cond.selects RX2 yX2_shallower yX2_shallower) :: (Cond.code yX2_shallower cX2_shallower 2 (some .int)) :: (Cond.methodLink RX2 42 yX2_step) :: (Cond.instanceMethod yX2_step) :: (Cond.selects RX2 yX2_step yX2_step) :: (Cond.code yX2_step cX2_step 1 (some .int)) :: (Cond.methodLink RX5 117 yX5_least) :: (Cond.instanceMethod yX5_least) :: (Cond.selects RX5 yX5_least yX5_least) :: (Cond.initialized RX5) :: (Cond.methodLink RX5 101 yX2_deeper) :: (Cond.instanceMethod yX2_deeper) :: (Cond.selects RX2 yX2_deeper yX2_deeper) :: (Cond.code yX2_deeper cX2_deeper 4 (some .int)) :: (Cond.code yX5_least cX5_least 9 (some .int)) :: (Cond.fieldLink RX5 34 "TheLiningsInIt$Ways" "longest" "I") :: (Cond.fieldLink RX5 15 "TheLiningsInIt$Ways" "knownLeast" "[I") :: (Cond.fieldLink RX5 27 "TheLiningsInIt$Ways" "count" "I") :: (Cond.methodLink RX5 110 Lib.Math.min.name) :: (Cond.methodLink RX5 104 yX5_leastAtOnce) :: (Cond.instanceMethod yX5_leastAtOnce) :: (Cond.selects RX5 yX5_leastAtOnce yX5_leastAtOnce) :: (Cond.code yX5_leastAtOnce cX5_leastAtOnce 3 (some .int)) :: []
def wsX5_leastBy_r3 : List Cond := (Cond.methodLink RX5 113 yX5_headIsCheapest) :: (Cond.instanceMethod yX5_headIsCheapest) :: (Cond.selects RX5 yX5_headIsCheapest yX5_headIsCheapest) :: (Cond.code yX5_headIsCheapest cX5_headIsCheapest 2 (some .boolean)) :: (Cond.methodLink RX5 82 yX5_mayBeAt) :: (Cond.instanceMethod yX5_mayBeAt) :: (Cond.selects RX5 yX5_mayBeAt yX5_mayBeAt) :: (Cond.code yX5_mayBeAt cX5_mayBeAt 5 (some (.object "TheLiningsInIt$Pull"))) :: (Cond.fieldLink RX5 23 "TheLiningsInIt$Ways" "pulls" "[LTheLiningsInIt$Pull;") :: (Cond.static yX7_within) :: (Cond.initialized RX7) :: (Cond.code yX7_within cX7_within 3 (some .boolean)) :: (Cond.methodLink RX5 75 yX2_mayBe) :: (Cond.instanceMethod yX2_mayBe) :: (Cond.selects RX2 yX2_mayBe yX2_mayBe) :: (Cond.code yX2_mayBe cX2_mayBe 3 (some .boolean)) :: (Cond.fieldLink RX2 18 "TheLiningsInIt$Pull" "takes" "I") :: (Cond.methodLink RX5 107 yX5_leastBy) :: (Cond.instanceMethod yX5_leastBy) :: (Cond.selects RX5 yX5_leastBy yX5_leastBy) :: []
def wsX5_leastBy : List Cond := (.code yX5_leastBy cX5_leastBy 8 (some .int)) :: ((wsX5_leastBy_r1 ++ (wsX5_leastBy_r2 ++ wsX5_leastBy_r3)) ++ wsX50 ++ wsX20)
def wsX5_first_r1 : List Cond := (Cond.fieldLink RX5 27 "TheLiningsInIt$Ways" "count" "I") :: (Cond.methodLink RX5 117 yX5_least) :: (Cond.instanceMethod yX5_least) :: (Cond.selects RX5 yX5_least yX5_least) :: (Cond.initialized RX5) :: (Cond.code yX5_least cX5_least 9 (some .int)) :: (Cond.fieldLink RX5 34 "TheLiningsInIt$Ways" "longest" "I") :: (Cond.fieldLink RX5 15 "TheLiningsInIt$Ways" "knownLeast" "[I") :: (Cond.methodLink RX5 110 Lib.Math.min.name) :: (Cond.static Lib.Math.min.name) :: (Cond.initialized "java/lang/Math") :: (Cond.code Lib.Math.min.name Lib.Math.min.code 2 (some .int)) :: (Cond.methodLink RX5 104 yX5_leastAtOnce) :: (Cond.instanceMethod yX5_leastAtOnce) :: (Cond.selects RX5 yX5_leastAtOnce yX5_leastAtOnce) :: (Cond.code yX5_leastAtOnce cX5_leastAtOnce 3 (some .int)) :: (Cond.fieldLink RX5 79 "TheLiningsInIt$Ways" "POWERS" "[I") :: (Cond.fieldLink RX5 18 "TheLiningsInIt$Ways" "costs" "[I") :: (Cond.methodLink RX5 113 yX5_headIsCheapest) :: (Cond.instanceMethod yX5_headIsCheapest) :: (Cond.selects RX5 yX5_headIsCheapest yX5_headIsCheapest) :: (Cond.code yX5_headIsCheapest cX5_headIsCheapest 2 (some .boolean)) :: (Cond.methodLink RX5 82 yX5_mayBeAt) :: (Cond.instanceMethod yX5_mayBeAt) :: []
def wsX5_first_r2 : List Cond := (Cond.selects RX5 yX5_mayBeAt yX5_mayBeAt) :: (Cond.code yX5_mayBeAt cX5_mayBeAt 5 (some (.object "TheLiningsInIt$Pull"))) :: (Cond.fieldLink RX5 23 "TheLiningsInIt$Ways" "pulls" "[LTheLiningsInIt$Pull;") :: (Cond.static yX7_within) :: (Cond.initialized RX7) :: (Cond.code yX7_within cX7_within 3 (some .boolean)) :: (Cond.methodLink RX5 75 yX2_mayBe) :: (Cond.instanceMethod yX2_mayBe) :: (Cond.selects RX2 yX2_mayBe yX2_mayBe) :: (Cond.initialized RX2) :: (Cond.code yX2_mayBe cX2_mayBe 3 (some .boolean)) :: (Cond.fieldLink RX2 18 "TheLiningsInIt$Pull" "takes" "I") :: (Cond.methodLink RX5 107 yX5_leastBy) :: (Cond.instanceMethod yX5_leastBy) :: (Cond.selects RX5 yX5_leastBy yX5_leastBy) :: (Cond.code yX5_leastBy cX5_leastBy 8 (some .int)) :: (Cond.fieldLink RX5 31 "TheLiningsInIt$Ways" "hurry" "I") :: (Cond.fieldLink RX5 49 "TheLiningsInIt$Pull" "takes" "I") :: (Cond.fieldLink RX5 46 "TheLiningsInIt$Pull" "kind" "I") :: (Cond.methodLink RX5 90 yX2_waysAt) :: (Cond.instanceMethod yX2_waysAt) :: (Cond.selects RX2 yX2_waysAt yX2_waysAt) :: (Cond.code yX2_waysAt cX2_waysAt 3 (some .int)) :: (Cond.fieldLink RX2 9 "TheLiningsInIt$Pull" "kind" "I") :: []
def wsX5_first_r3 : List Cond := (Cond.methodLink RX2 33 Lib.Math.min.name) :: (Cond.methodLink RX2 39 Lib.Math.max.name) :: (Cond.static Lib.Math.max.name) :: (Cond.code Lib.Math.max.name Lib.Math.max.code 2 (some .int)) :: (Cond.methodLink RX2 29 yX2_calmWaysAt) :: (Cond.instanceMethod yX2_calmWaysAt) :: (Cond.selects RX2 yX2_calmWaysAt yX2_calmWaysAt) :: (Cond.code yX2_calmWaysAt cX2_calmWaysAt 2 (some .int)) :: (Cond.fieldLink RX2 15 "TheLiningsInIt$Pull" "a" "I") :: (Cond.methodLink RX5 93 yX2_shallower) :: (Cond.instanceMethod yX2_shallower) :: (Cond.selects RX2 yX2_shallower yX2_shallower) :: (Cond.code yX2_shallower cX2_shallower 2 (some .int)) :: (Cond.methodLink RX2 42 yX2_step) :: (Cond.instanceMethod yX2_step) :: (Cond.selects RX2 yX2_step yX2_step) :: (Cond.code yX2_step cX2_step 1 (some .int)) :: (Cond.methodLink RX5 101 yX2_deeper) :: (Cond.instanceMethod yX2_deeper) :: (Cond.selects RX2 yX2_deeper yX2_deeper) :: (Cond.code yX2_deeper cX2_deeper 4 (some .int)) :: []
def wsX5_first : List Cond := (.code yX5_first cX5_first 7 (some .int)) :: ((wsX5_first_r1 ++ (wsX5_first_r2 ++ wsX5_first_r3)) ++ wsX50 ++ wsX20)
set_option maxRecDepth 20000 in
theorem gl_X5_next_X50 : GoodIn wsX5_next wsX50 := (dg_t (dg_l (dg_r gw_wsX50)))
theorem gl_X5_next_X20 : GoodIn wsX5_next wsX20 := (dg_t (dg_r gw_wsX20))
theorem ggX5_next_X5_mayBeAt : GoodIn wsX5_next wsX5_mayBeAt := (dg_c 6 rfl rfl (dg_c 7 rfl rfl (dg_c 8 rfl rfl (dg_c 9 rfl rfl (dg_c 10 rfl rfl (dg_c 11 rfl rfl (dg_c 12 rfl rfl (dg_c 13 rfl rfl (dg_c 14 rfl rfl (dg_c 15 rfl rfl (dg_c 16 rfl rfl (goodIn_app gl_X5_next_X50 gl_X5_next_X20))))))))))))
set_option maxRecDepth 20000 in
theorem gX5_next_X5_mayBeAt : GoodIn wsX5_next (wsV RX5 82 RX5 yX5_mayBeAt wsX5_mayBeAt) := goodIn_app (dg_c 2 rfl rfl (dg_c 3 rfl rfl (dg_c 4 rfl rfl (dg_c 5 rfl rfl dg_0)))) ggX5_next_X5_mayBeAt
set_option maxRecDepth 20000 in
theorem ggX5_next_X5_mostBy : GoodIn wsX5_next wsX5_mostBy := (dg_c 20 rfl rfl (goodIn_app (goodIn_app (goodIn_app (dg_c 21 rfl rfl (dg_c 22 rfl rfl (dg_c 23 rfl rfl (dg_c 24 rfl rfl (dg_c 25 rfl rfl (dg_c 14 rfl rfl (dg_c 26 rfl rfl (dg_c 27 rfl rfl (dg_c 28 rfl rfl (dg_c 29 rfl rfl (dg_c 30 rfl rfl (dg_c 31 rfl rfl (dg_c 32 rfl rfl (dg_c 33 rfl rfl (dg_c 34 rfl rfl (dg_c 35 rfl rfl (dg_c 36 rfl rfl (dg_c 37 rfl rfl (dg_c 38 rfl rfl (dg_c 39 rfl rfl (dg_c 40 rfl rfl (dg_c 41 rfl rfl (dg_c 42 rfl rfl (dg_c 43 rfl rfl dg_0)))))))))))))))))))))))) (goodIn_app (dg_c 44 rfl rfl (dg_c 45 rfl rfl (dg_c 46 rfl rfl (dg_c 47 rfl rfl (dg_c 48 rfl rfl (dg_c 49 rfl rfl (dg_c 50 rfl rfl (dg_c 5 rfl rfl (dg_c 51 rfl rfl (dg_c 52 rfl rfl (dg_c 53 rfl rfl (dg_c 54 rfl rfl (dg_c 55 rfl rfl (dg_c 56 rfl rfl (dg_c 57 rfl rfl (dg_c 58 rfl rfl (dg_c 1 rfl rfl (dg_c 59 rfl rfl (dg_c 2 rfl rfl (dg_c 3 rfl rfl (dg_c 4 rfl rfl (dg_c 6 rfl rfl (dg_c 7 rfl rfl (dg_c 8 rfl rfl dg_0)))))))))))))))))))))))) (dg_c 9 rfl rfl (dg_c 10 rfl rfl (dg_c 11 rfl rfl (dg_c 12 rfl rfl (dg_c 13 rfl rfl (dg_c 15 rfl rfl (dg_c 16 rfl rfl (dg_c 17 rfl rfl (dg_c 18 rfl rfl (dg_c 19 rfl rfl dg_0)))))))))))) gl_X5_next_X50) gl_X5_next_X20))
set_option maxRecDepth 20000 in
theorem gX5_next_X5_mostBy : GoodIn wsX5_next (wsV RX5 86 RX5 yX5_mostBy wsX5_mostBy) := goodIn_app (dg_c 17 rfl rfl (dg_c 18 rfl rfl (dg_c 19 rfl rfl (dg_c 5 rfl rfl dg_0)))) ggX5_next_X5_mostBy
theorem dX5_next_0 : decode cX5_next 0 = .ok (.iconst (-1), 1) := dq_2 dp_cX5_next rfl
theorem dX5_next_1 : decode cX5_next 1 = .ok (.istore 4, 2) := dq_54 dp_cX5_next rfl
theorem dX5_next_3 : decode cX5_next 3 = .ok (.iconst (-1), 1) := dq_2 dp_cX5_next rfl
theorem dX5_next_4 : decode cX5_next 4 = .ok (.istore 5, 2) := dq_54 dp_cX5_next rfl
theorem dX5_next_6 : decode cX5_next 6 = .ok (.iconst 0, 1) := dq_3 dp_cX5_next rfl
theorem dX5_next_7 : decode cX5_next 7 = .ok (.istore 6, 2) := dq_54 dp_cX5_next rfl
theorem dX5_next_9 : decode cX5_next 9 = .ok (.iload 6, 2) := dq_21 dp_cX5_next rfl
theorem dX5_next_11 : decode cX5_next 11 = .ok (.aload_n 0, 1) := dq_42 dp_cX5_next rfl
theorem dX5_next_12 : decode cX5_next 12 = .ok (.getfield 27, 3) := dq_180 dp_cX5_next rfl
theorem dX5_next_15 : decode cX5_next 15 = .ok (.if_icmp .ge 58, 3) := dq_162 (v := 58) dp_cX5_next rfl rfl
theorem dX5_next_18 : decode cX5_next 18 = .ok (.iload_n 1, 1) := dq_27 dp_cX5_next rfl
theorem dX5_next_19 : decode cX5_next 19 = .ok (.ifCond .le 54, 3) := dq_158 (v := 54) dp_cX5_next rfl rfl
theorem dX5_next_22 : decode cX5_next 22 = .ok (.aload_n 0, 1) := dq_42 dp_cX5_next rfl
theorem dX5_next_23 : decode cX5_next 23 = .ok (.iload 6, 2) := dq_21 dp_cX5_next rfl
theorem dX5_next_25 : decode cX5_next 25 = .ok (.iload_n 2, 1) := dq_28 dp_cX5_next rfl
theorem dX5_next_26 : decode cX5_next 26 = .ok (.iload_n 3, 1) := dq_29 dp_cX5_next rfl
theorem dX5_next_27 : decode cX5_next 27 = .ok (.invokevirtual 82, 3) := dq_182 dp_cX5_next rfl
theorem dX5_next_30 : decode cX5_next 30 = .ok (.astore 7, 2) := dq_58 dp_cX5_next rfl
theorem dX5_next_32 : decode cX5_next 32 = .ok (.aload 7, 2) := dq_25 dp_cX5_next rfl
theorem dX5_next_34 : decode cX5_next 34 = .ok (.ifnonnull 7, 3) := dq_199 (v := 7) dp_cX5_next rfl rfl
theorem dX5_next_37 : decode cX5_next 37 = .ok (.iconst (-1), 1) := dq_2 dp_cX5_next rfl
theorem dX5_next_38 : decode cX5_next 38 = .ok (.goto 12, 3) := dq_167 (v := 12) dp_cX5_next rfl rfl
theorem dX5_next_41 : decode cX5_next 41 = .ok (.aload_n 0, 1) := dq_42 dp_cX5_next rfl
theorem dX5_next_42 : decode cX5_next 42 = .ok (.aload 7, 2) := dq_25 dp_cX5_next rfl
theorem dX5_next_44 : decode cX5_next 44 = .ok (.iload_n 1, 1) := dq_27 dp_cX5_next rfl
theorem dX5_next_45 : decode cX5_next 45 = .ok (.iload_n 2, 1) := dq_28 dp_cX5_next rfl
theorem dX5_next_46 : decode cX5_next 46 = .ok (.iload_n 3, 1) := dq_29 dp_cX5_next rfl
theorem dX5_next_47 : decode cX5_next 47 = .ok (.invokevirtual 86, 3) := dq_182 dp_cX5_next rfl
theorem dX5_next_50 : decode cX5_next 50 = .ok (.istore 8, 2) := dq_54 dp_cX5_next rfl
theorem dX5_next_52 : decode cX5_next 52 = .ok (.iload 8, 2) := dq_21 dp_cX5_next rfl
theorem dX5_next_54 : decode cX5_next 54 = .ok (.iload 5, 2) := dq_21 dp_cX5_next rfl
theorem dX5_next_56 : decode cX5_next 56 = .ok (.if_icmp .le 11, 3) := dq_164 (v := 11) dp_cX5_next rfl rfl
theorem dX5_next_59 : decode cX5_next 59 = .ok (.iload 8, 2) := dq_21 dp_cX5_next rfl
theorem dX5_next_61 : decode cX5_next 61 = .ok (.istore 5, 2) := dq_54 dp_cX5_next rfl
theorem dX5_next_63 : decode cX5_next 63 = .ok (.iload 6, 2) := dq_21 dp_cX5_next rfl
theorem dX5_next_65 : decode cX5_next 65 = .ok (.istore 4, 2) := dq_54 dp_cX5_next rfl
theorem dX5_next_67 : decode cX5_next 67 = .ok (.iinc 6 1, 3) := dq_132 (v := 1) dp_cX5_next rfl (by decide) rfl
theorem dX5_next_70 : decode cX5_next 70 = .ok (.goto (-61), 3) := dq_167 (v := 65475) dp_cX5_next rfl rfl
theorem dX5_next_73 : decode cX5_next 73 = .ok (.iload 4, 2) := dq_21 dp_cX5_next rfl
theorem dX5_next_75 : decode cX5_next 75 = .ok (.ireturn, 1) := dq_172 dp_cX5_next rfl
set_option maxRecDepth 20000 in
theorem gl_X5_least_X50 : GoodIn wsX5_least wsX50 := (dg_t (dg_l (dg_r gw_wsX50)))
theorem ggX5_least_X5_leastAtOnce : GoodIn wsX5_least wsX5_leastAtOnce := (dg_c 12 rfl rfl (dg_c 13 rfl rfl (dg_c 14 rfl rfl (dg_c 15 rfl rfl (dg_c 16 rfl rfl (dg_c 17 rfl rfl (dg_c 11 rfl rfl (dg_c 18 rfl rfl gl_X5_least_X50))))))))
set_option maxRecDepth 20000 in
theorem gX5_least_X5_leastAtOnce : GoodIn wsX5_least (wsV RX5 104 RX5 yX5_leastAtOnce wsX5_leastAtOnce) := goodIn_app (dg_c 8 rfl rfl (dg_c 9 rfl rfl (dg_c 10 rfl rfl (dg_c 11 rfl rfl dg_0)))) ggX5_least_X5_leastAtOnce
set_option maxRecDepth 20000 in
theorem gl_X5_least_X20 : GoodIn wsX5_least wsX20 := (dg_t (dg_r gw_wsX20))
theorem ggX5_least_X5_mayBeAt : GoodIn wsX5_least wsX5_mayBeAt := (dg_c 22 rfl rfl (dg_c 23 rfl rfl (dg_c 24 rfl rfl (dg_c 25 rfl rfl (dg_c 26 rfl rfl (dg_c 27 rfl rfl (dg_c 28 rfl rfl (dg_c 29 rfl rfl (dg_c 30 rfl rfl (dg_c 31 rfl rfl (dg_c 32 rfl rfl (goodIn_app gl_X5_least_X50 gl_X5_least_X20))))))))))))
set_option maxRecDepth 20000 in
theorem gX5_least_X5_mayBeAt : GoodIn wsX5_least (wsV RX5 82 RX5 yX5_mayBeAt wsX5_mayBeAt) := goodIn_app (dg_c 19 rfl rfl (dg_c 20 rfl rfl (dg_c 21 rfl rfl (dg_c 11 rfl rfl dg_0)))) ggX5_least_X5_mayBeAt
set_option maxRecDepth 20000 in
theorem ggX5_least_X5_leastBy : GoodIn wsX5_least wsX5_leastBy := (dg_c 36 rfl rfl (goodIn_app (goodIn_app (goodIn_app (dg_c 37 rfl rfl (dg_c 38 rfl rfl (dg_c 39 rfl rfl (dg_c 13 rfl rfl (dg_c 14 rfl rfl (dg_c 40 rfl rfl (dg_c 41 rfl rfl (dg_c 42 rfl rfl (dg_c 30 rfl rfl (dg_c 43 rfl rfl (dg_c 44 rfl rfl (dg_c 45 rfl rfl (dg_c 5 rfl rfl (dg_c 6 rfl rfl (dg_c 7 rfl rfl (dg_c 46 rfl rfl (dg_c 47 rfl rfl (dg_c 48 rfl rfl (dg_c 49 rfl rfl (dg_c 50 rfl rfl (dg_c 51 rfl rfl (dg_c 52 rfl rfl (dg_c 53 rfl rfl (dg_c 54 rfl rfl dg_0)))))))))))))))))))))))) (goodIn_app (dg_c 55 rfl rfl (dg_c 56 rfl rfl (dg_c 57 rfl rfl (dg_c 58 rfl rfl (dg_c 59 rfl rfl (dg_c 60 rfl rfl (dg_c 61 rfl rfl (dg_c 62 rfl rfl (dg_c 63 rfl rfl (dg_c 64 rfl rfl (dg_c 11 rfl rfl (dg_c 65 rfl rfl (dg_c 66 rfl rfl (dg_c 67 rfl rfl (dg_c 68 rfl rfl (dg_c 0 rfl rfl (dg_c 1 rfl rfl (dg_c 2 rfl rfl (dg_c 3 rfl rfl (dg_c 4 rfl rfl (dg_c 8 rfl rfl (dg_c 9 rfl rfl (dg_c 10 rfl rfl (dg_c 12 rfl rfl dg_0)))))))))))))))))))))))) (dg_c 15 rfl rfl (dg_c 16 rfl rfl (dg_c 17 rfl rfl (dg_c 18 rfl rfl (dg_c 19 rfl rfl (dg_c 20 rfl rfl (dg_c 21 rfl rfl (dg_c 22 rfl rfl (dg_c 23 rfl rfl (dg_c 24 rfl rfl (dg_c 25 rfl rfl (dg_c 26 rfl rfl (dg_c 27 rfl rfl (dg_c 28 rfl rfl (dg_c 29 rfl rfl (dg_c 31 rfl rfl (dg_c 32 rfl rfl (dg_c 33 rfl rfl (dg_c 34 rfl rfl (dg_c 35 rfl rfl dg_0)))))))))))))))))))))) gl_X5_least_X50) gl_X5_least_X20))
set_option maxRecDepth 20000 in
theorem gX5_least_X5_leastBy : GoodIn wsX5_least (wsV RX5 107 RX5 yX5_leastBy wsX5_leastBy) := goodIn_app (dg_c 33 rfl rfl (dg_c 34 rfl rfl (dg_c 35 rfl rfl (dg_c 11 rfl rfl dg_0)))) ggX5_least_X5_leastBy
theorem dX5_least_0 : decode cX5_least 0 = .ok (.iload_n 1, 1) := dq_27 dp_cX5_least rfl
theorem dX5_least_1 : decode cX5_least 1 = .ok (.ifCond .lt 19, 3) := dq_155 (v := 19) dp_cX5_least rfl rfl
theorem dX5_least_4 : decode cX5_least 4 = .ok (.iload_n 1, 1) := dq_27 dp_cX5_least rfl
theorem dX5_least_5 : decode cX5_least 5 = .ok (.iconst 4, 1) := dq_7 dp_cX5_least rfl
theorem dX5_least_6 : decode cX5_least 6 = .ok (.if_icmp .gt 14, 3) := dq_163 (v := 14) dp_cX5_least rfl rfl
theorem dX5_least_9 : decode cX5_least 9 = .ok (.iload_n 2, 1) := dq_28 dp_cX5_least rfl
theorem dX5_least_10 : decode cX5_least 10 = .ok (.iconst 1, 1) := dq_4 dp_cX5_least rfl
theorem dX5_least_11 : decode cX5_least 11 = .ok (.if_icmp .lt 9, 3) := dq_161 (v := 9) dp_cX5_least rfl rfl
theorem dX5_least_14 : decode cX5_least 14 = .ok (.iload_n 2, 1) := dq_28 dp_cX5_least rfl
theorem dX5_least_15 : decode cX5_least 15 = .ok (.bipush 24, 2) := dq_16 (v := 24) dp_cX5_least rfl rfl
theorem dX5_least_17 : decode cX5_least 17 = .ok (.if_icmp .le 5, 3) := dq_164 (v := 5) dp_cX5_least rfl rfl
theorem dX5_least_20 : decode cX5_least 20 = .ok (.iconst 0, 1) := dq_3 dp_cX5_least rfl
theorem dX5_least_21 : decode cX5_least 21 = .ok (.ireturn, 1) := dq_172 dp_cX5_least rfl
theorem dX5_least_22 : decode cX5_least 22 = .ok (.iload_n 3, 1) := dq_29 dp_cX5_least rfl
theorem dX5_least_23 : decode cX5_least 23 = .ok (.iload_n 1, 1) := dq_27 dp_cX5_least rfl
theorem dX5_least_24 : decode cX5_least 24 = .ok (.aload_n 0, 1) := dq_42 dp_cX5_least rfl
theorem dX5_least_25 : decode cX5_least 25 = .ok (.getfield 34, 3) := dq_180 dp_cX5_least rfl
theorem dX5_least_28 : decode cX5_least 28 = .ok (.imul, 1) := dq_104 dp_cX5_least rfl
theorem dX5_least_29 : decode cX5_least 29 = .ok (.bipush 30, 2) := dq_16 (v := 30) dp_cX5_least rfl rfl
theorem dX5_least_31 : decode cX5_least 31 = .ok (.iadd, 1) := dq_96 dp_cX5_least rfl
theorem dX5_least_32 : decode cX5_least 32 = .ok (.if_icmp .lt 7, 3) := dq_161 (v := 7) dp_cX5_least rfl rfl
theorem dX5_least_35 : decode cX5_least 35 = .ok (.iconst 1, 1) := dq_4 dp_cX5_least rfl
theorem dX5_least_36 : decode cX5_least 36 = .ok (.goto 4, 3) := dq_167 (v := 4) dp_cX5_least rfl rfl
theorem dX5_least_39 : decode cX5_least 39 = .ok (.iconst 0, 1) := dq_3 dp_cX5_least rfl
theorem dX5_least_40 : decode cX5_least 40 = .ok (.istore 4, 2) := dq_54 dp_cX5_least rfl
theorem dX5_least_42 : decode cX5_least 42 = .ok (.iload_n 1, 1) := dq_27 dp_cX5_least rfl
theorem dX5_least_43 : decode cX5_least 43 = .ok (.bipush 25, 2) := dq_16 (v := 25) dp_cX5_least rfl rfl
theorem dX5_least_45 : decode cX5_least 45 = .ok (.imul, 1) := dq_104 dp_cX5_least rfl
theorem dX5_least_46 : decode cX5_least 46 = .ok (.iload_n 2, 1) := dq_28 dp_cX5_least rfl
theorem dX5_least_47 : decode cX5_least 47 = .ok (.iadd, 1) := dq_96 dp_cX5_least rfl
theorem dX5_least_48 : decode cX5_least 48 = .ok (.istore 5, 2) := dq_54 dp_cX5_least rfl
theorem dX5_least_50 : decode cX5_least 50 = .ok (.iload 4, 2) := dq_21 dp_cX5_least rfl
theorem dX5_least_52 : decode cX5_least 52 = .ok (.ifCond .eq 22, 3) := dq_153 (v := 22) dp_cX5_least rfl rfl
theorem dX5_least_55 : decode cX5_least 55 = .ok (.aload_n 0, 1) := dq_42 dp_cX5_least rfl
theorem dX5_least_56 : decode cX5_least 56 = .ok (.getfield 15, 3) := dq_180 dp_cX5_least rfl
theorem dX5_least_59 : decode cX5_least 59 = .ok (.iload 5, 2) := dq_21 dp_cX5_least rfl
theorem dX5_least_61 : decode cX5_least 61 = .ok (.iaload, 1) := dq_46 dp_cX5_least rfl
theorem dX5_least_62 : decode cX5_least 62 = .ok (.iconst (-1), 1) := dq_2 dp_cX5_least rfl
theorem dX5_least_63 : decode cX5_least 63 = .ok (.if_icmp .eq 11, 3) := dq_159 (v := 11) dp_cX5_least rfl rfl
theorem dX5_least_66 : decode cX5_least 66 = .ok (.aload_n 0, 1) := dq_42 dp_cX5_least rfl
theorem dX5_least_67 : decode cX5_least 67 = .ok (.getfield 15, 3) := dq_180 dp_cX5_least rfl
theorem dX5_least_70 : decode cX5_least 70 = .ok (.iload 5, 2) := dq_21 dp_cX5_least rfl
theorem dX5_least_72 : decode cX5_least 72 = .ok (.iaload, 1) := dq_46 dp_cX5_least rfl
theorem dX5_least_73 : decode cX5_least 73 = .ok (.ireturn, 1) := dq_172 dp_cX5_least rfl
theorem dX5_least_74 : decode cX5_least 74 = .ok (.aload_n 0, 1) := dq_42 dp_cX5_least rfl
theorem dX5_least_75 : decode cX5_least 75 = .ok (.iload_n 1, 1) := dq_27 dp_cX5_least rfl
theorem dX5_least_76 : decode cX5_least 76 = .ok (.iload_n 3, 1) := dq_29 dp_cX5_least rfl
theorem dX5_least_77 : decode cX5_least 77 = .ok (.invokevirtual 104, 3) := dq_182 dp_cX5_least rfl
theorem dX5_least_80 : decode cX5_least 80 = .ok (.istore 6, 2) := dq_54 dp_cX5_least rfl
theorem dX5_least_82 : decode cX5_least 82 = .ok (.iconst 0, 1) := dq_3 dp_cX5_least rfl
theorem dX5_least_83 : decode cX5_least 83 = .ok (.istore 7, 2) := dq_54 dp_cX5_least rfl
theorem dX5_least_85 : decode cX5_least 85 = .ok (.iload 7, 2) := dq_21 dp_cX5_least rfl
theorem dX5_least_87 : decode cX5_least 87 = .ok (.aload_n 0, 1) := dq_42 dp_cX5_least rfl
theorem dX5_least_88 : decode cX5_least 88 = .ok (.getfield 27, 3) := dq_180 dp_cX5_least rfl
theorem dX5_least_91 : decode cX5_least 91 = .ok (.if_icmp .ge 44, 3) := dq_162 (v := 44) dp_cX5_least rfl rfl
theorem dX5_least_94 : decode cX5_least 94 = .ok (.iload_n 1, 1) := dq_27 dp_cX5_least rfl
theorem dX5_least_95 : decode cX5_least 95 = .ok (.ifCond .le 40, 3) := dq_158 (v := 40) dp_cX5_least rfl rfl
theorem dX5_least_98 : decode cX5_least 98 = .ok (.aload_n 0, 1) := dq_42 dp_cX5_least rfl
theorem dX5_least_99 : decode cX5_least 99 = .ok (.iload 7, 2) := dq_21 dp_cX5_least rfl
theorem dX5_least_101 : decode cX5_least 101 = .ok (.iload_n 2, 1) := dq_28 dp_cX5_least rfl
theorem dX5_least_102 : decode cX5_least 102 = .ok (.iload_n 3, 1) := dq_29 dp_cX5_least rfl
theorem dX5_least_103 : decode cX5_least 103 = .ok (.invokevirtual 82, 3) := dq_182 dp_cX5_least rfl
theorem dX5_least_106 : decode cX5_least 106 = .ok (.astore 8, 2) := dq_58 dp_cX5_least rfl
theorem dX5_least_108 : decode cX5_least 108 = .ok (.aload 8, 2) := dq_25 dp_cX5_least rfl
theorem dX5_least_110 : decode cX5_least 110 = .ok (.ifnull 19, 3) := dq_198 (v := 19) dp_cX5_least rfl rfl
theorem dX5_least_113 : decode cX5_least 113 = .ok (.iload 6, 2) := dq_21 dp_cX5_least rfl
theorem dX5_least_115 : decode cX5_least 115 = .ok (.aload_n 0, 1) := dq_42 dp_cX5_least rfl
theorem dX5_least_116 : decode cX5_least 116 = .ok (.aload 8, 2) := dq_25 dp_cX5_least rfl
theorem dX5_least_118 : decode cX5_least 118 = .ok (.iload_n 1, 1) := dq_27 dp_cX5_least rfl
theorem dX5_least_119 : decode cX5_least 119 = .ok (.iload_n 2, 1) := dq_28 dp_cX5_least rfl
theorem dX5_least_120 : decode cX5_least 120 = .ok (.iload_n 3, 1) := dq_29 dp_cX5_least rfl
theorem dX5_least_121 : decode cX5_least 121 = .ok (.invokevirtual 107, 3) := dq_182 dp_cX5_least rfl
theorem dX5_least_124 : decode cX5_least 124 = .ok (.invokestatic 110, 3) := dq_184 dp_cX5_least rfl
theorem dX5_least_127 : decode cX5_least 127 = .ok (.istore 6, 2) := dq_54 dp_cX5_least rfl
theorem dX5_least_129 : decode cX5_least 129 = .ok (.iinc 7 1, 3) := dq_132 (v := 1) dp_cX5_least rfl (by decide) rfl
theorem dX5_least_132 : decode cX5_least 132 = .ok (.goto (-47), 3) := dq_167 (v := 65489) dp_cX5_least rfl rfl
theorem dX5_least_135 : decode cX5_least 135 = .ok (.iload 4, 2) := dq_21 dp_cX5_least rfl
theorem dX5_least_137 : decode cX5_least 137 = .ok (.ifCond .eq 12, 3) := dq_153 (v := 12) dp_cX5_least rfl rfl
theorem dX5_least_140 : decode cX5_least 140 = .ok (.aload_n 0, 1) := dq_42 dp_cX5_least rfl
theorem dX5_least_141 : decode cX5_least 141 = .ok (.getfield 15, 3) := dq_180 dp_cX5_least rfl
theorem dX5_least_144 : decode cX5_least 144 = .ok (.iload 5, 2) := dq_21 dp_cX5_least rfl
theorem dX5_least_146 : decode cX5_least 146 = .ok (.iload 6, 2) := dq_21 dp_cX5_least rfl
theorem dX5_least_148 : decode cX5_least 148 = .ok (.iastore, 1) := dq_79 dp_cX5_least rfl
theorem dX5_least_149 : decode cX5_least 149 = .ok (.iload 6, 2) := dq_21 dp_cX5_least rfl
theorem dX5_least_151 : decode cX5_least 151 = .ok (.ireturn, 1) := dq_172 dp_cX5_least rfl
set_option maxRecDepth 20000 in
theorem gl_X5_leastBy_X20 : GoodIn wsX5_leastBy wsX20 := (dg_t (dg_r gw_wsX20))
theorem ggX5_leastBy_X2_waysAt : GoodIn wsX5_leastBy wsX2_waysAt := (dg_c 10 rfl rfl (dg_c 11 rfl rfl (dg_c 12 rfl rfl (dg_c 13 rfl rfl (dg_c 14 rfl rfl (dg_c 15 rfl rfl (dg_c 16 rfl rfl (dg_c 17 rfl rfl (dg_c 18 rfl rfl (dg_c 19 rfl rfl (dg_c 20 rfl rfl (dg_c 21 rfl rfl (dg_c 9 rfl rfl (dg_c 22 rfl rfl (dg_c 23 rfl rfl gl_X5_leastBy_X20)))))))))))))))
set_option maxRecDepth 20000 in
theorem gX5_leastBy_X2_waysAt : GoodIn wsX5_leastBy (wsV RX5 90 RX2 yX2_waysAt wsX2_waysAt) := goodIn_app (dg_c 6 rfl rfl (dg_c 7 rfl rfl (dg_c 8 rfl rfl (dg_c 9 rfl rfl dg_0)))) ggX5_leastBy_X2_waysAt
set_option maxRecDepth 20000 in
theorem ggX5_leastBy_X2_shallower : GoodIn wsX5_leastBy wsX2_shallower := (dg_c 27 rfl rfl (dg_c 16 rfl rfl (dg_c 17 rfl rfl (dg_c 14 rfl rfl (dg_c 18 rfl rfl (dg_c 28 rfl rfl (dg_c 29 rfl rfl (dg_c 30 rfl rfl (dg_c 9 rfl rfl (dg_c 31 rfl rfl (dg_c 11 rfl rfl (dg_c 23 rfl rfl gl_X5_leastBy_X20))))))))))))
set_option maxRecDepth 20000 in
theorem gX5_leastBy_X2_shallower : GoodIn wsX5_leastBy (wsV RX5 93 RX2 yX2_shallower wsX2_shallower) := goodIn_app (dg_c 24 rfl rfl (dg_c 25 rfl rfl (dg_c 26 rfl rfl (dg_c 9 rfl rfl dg_0)))) ggX5_leastBy_X2_shallower
set_option maxRecDepth 20000 in
theorem gl_X5_leastBy_X50 : GoodIn wsX5_leastBy wsX50 := (dg_t (dg_l (dg_r gw_wsX50)))
theorem ggX5_leastBy_X5_least : GoodIn wsX5_leastBy wsX5_least := (dg_c 40 rfl rfl (goodIn_app (goodIn_app (goodIn_app (dg_c 41 rfl rfl (dg_c 42 rfl rfl (dg_c 43 rfl rfl (dg_c 44 rfl rfl (dg_c 13 rfl rfl (dg_c 14 rfl rfl (dg_c 15 rfl rfl (dg_c 45 rfl rfl (dg_c 46 rfl rfl (dg_c 47 rfl rfl (dg_c 35 rfl rfl (dg_c 48 rfl rfl (dg_c 4 rfl rfl (dg_c 5 rfl rfl (dg_c 49 rfl rfl (dg_c 50 rfl rfl (dg_c 51 rfl rfl (dg_c 52 rfl rfl (dg_c 53 rfl rfl (dg_c 54 rfl rfl (dg_c 55 rfl rfl (dg_c 56 rfl rfl (dg_c 57 rfl rfl (dg_c 58 rfl rfl dg_0)))))))))))))))))))))))) (goodIn_app (dg_c 59 rfl rfl (dg_c 60 rfl rfl (dg_c 61 rfl rfl (dg_c 62 rfl rfl (dg_c 63 rfl rfl (dg_c 9 rfl rfl (dg_c 64 rfl rfl (dg_c 65 rfl rfl (dg_c 66 rfl rfl (dg_c 67 rfl rfl (dg_c 68 rfl rfl (dg_c 0 rfl rfl (dg_c 1 rfl rfl (dg_c 2 rfl rfl (dg_c 3 rfl rfl (dg_c 6 rfl rfl (dg_c 7 rfl rfl (dg_c 8 rfl rfl (dg_c 10 rfl rfl (dg_c 11 rfl rfl (dg_c 12 rfl rfl (dg_c 16 rfl rfl (dg_c 17 rfl rfl (dg_c 18 rfl rfl dg_0)))))))))))))))))))))))) (dg_c 19 rfl rfl (dg_c 20 rfl rfl (dg_c 21 rfl rfl (dg_c 22 rfl rfl (dg_c 23 rfl rfl (dg_c 24 rfl rfl (dg_c 25 rfl rfl (dg_c 26 rfl rfl (dg_c 27 rfl rfl (dg_c 28 rfl rfl (dg_c 29 rfl rfl (dg_c 30 rfl rfl (dg_c 31 rfl rfl (dg_c 32 rfl rfl (dg_c 33 rfl rfl (dg_c 34 rfl rfl (dg_c 36 rfl rfl (dg_c 37 rfl rfl (dg_c 38 rfl rfl (dg_c 39 rfl rfl dg_0)))))))))))))))))))))) gl_X5_leastBy_X50) gl_X5_leastBy_X20))
set_option maxRecDepth 20000 in
theorem gX5_leastBy_X5_least : GoodIn wsX5_leastBy (wsV RX5 117 RX5 yX5_least wsX5_least) := goodIn_app (dg_c 32 rfl rfl (dg_c 33 rfl rfl (dg_c 34 rfl rfl (dg_c 35 rfl rfl dg_0)))) ggX5_leastBy_X5_least
set_option maxRecDepth 20000 in
theorem ggX5_leastBy_X2_deeper : GoodIn wsX5_leastBy wsX2_deeper := (dg_c 39 rfl rfl (dg_c 11 rfl rfl (dg_c 23 rfl rfl (dg_c 12 rfl rfl (dg_c 13 rfl rfl (dg_c 14 rfl rfl (dg_c 15 rfl rfl gl_X5_leastBy_X20)))))))
set_option maxRecDepth 20000 in
theorem gX5_leastBy_X2_deeper : GoodIn wsX5_leastBy (wsV RX5 101 RX2 yX2_deeper wsX2_deeper) := goodIn_app (dg_c 36 rfl rfl (dg_c 37 rfl rfl (dg_c 38 rfl rfl (dg_c 9 rfl rfl dg_0)))) ggX5_leastBy_X2_deeper
theorem dX5_leastBy_0 : decode cX5_leastBy 0 = .ok (.aload_n 1, 1) := dq_43 dp_cX5_leastBy rfl
theorem dX5_leastBy_1 : decode cX5_leastBy 1 = .ok (.iload_n 3, 1) := dq_29 dp_cX5_leastBy rfl
theorem dX5_leastBy_2 : decode cX5_leastBy 2 = .ok (.aload_n 0, 1) := dq_42 dp_cX5_leastBy rfl
theorem dX5_leastBy_3 : decode cX5_leastBy 3 = .ok (.getfield 31, 3) := dq_180 dp_cX5_leastBy rfl
theorem dX5_leastBy_6 : decode cX5_leastBy 6 = .ok (.invokevirtual 90, 3) := dq_182 dp_cX5_leastBy rfl
theorem dX5_leastBy_9 : decode cX5_leastBy 9 = .ok (.istore 5, 2) := dq_54 dp_cX5_leastBy rfl
theorem dX5_leastBy_11 : decode cX5_leastBy 11 = .ok (.iload 4, 2) := dq_21 dp_cX5_leastBy rfl
theorem dX5_leastBy_13 : decode cX5_leastBy 13 = .ok (.aload_n 1, 1) := dq_43 dp_cX5_leastBy rfl
theorem dX5_leastBy_14 : decode cX5_leastBy 14 = .ok (.getfield 49, 3) := dq_180 dp_cX5_leastBy rfl
theorem dX5_leastBy_17 : decode cX5_leastBy 17 = .ok (.isub, 1) := dq_100 dp_cX5_leastBy rfl
theorem dX5_leastBy_18 : decode cX5_leastBy 18 = .ok (.istore 6, 2) := dq_54 dp_cX5_leastBy rfl
theorem dX5_leastBy_20 : decode cX5_leastBy 20 = .ok (.aload_n 1, 1) := dq_43 dp_cX5_leastBy rfl
theorem dX5_leastBy_21 : decode cX5_leastBy 21 = .ok (.getfield 46, 3) := dq_180 dp_cX5_leastBy rfl
theorem dX5_leastBy_24 : decode cX5_leastBy 24 = .ok (.iconst 5, 1) := dq_8 dp_cX5_leastBy rfl
theorem dX5_leastBy_25 : decode cX5_leastBy 25 = .ok (.if_icmp .ne 18, 3) := dq_160 (v := 18) dp_cX5_leastBy rfl rfl
theorem dX5_leastBy_28 : decode cX5_leastBy 28 = .ok (.getstatic 79, 3) := dq_178 dp_cX5_leastBy rfl
theorem dX5_leastBy_31 : decode cX5_leastBy 31 = .ok (.iload_n 2, 1) := dq_28 dp_cX5_leastBy rfl
theorem dX5_leastBy_32 : decode cX5_leastBy 32 = .ok (.iaload, 1) := dq_46 dp_cX5_leastBy rfl
theorem dX5_leastBy_33 : decode cX5_leastBy 33 = .ok (.aload_n 0, 1) := dq_42 dp_cX5_leastBy rfl
theorem dX5_leastBy_34 : decode cX5_leastBy 34 = .ok (.getfield 18, 3) := dq_180 dp_cX5_leastBy rfl
theorem dX5_leastBy_37 : decode cX5_leastBy 37 = .ok (.iconst 0, 1) := dq_3 dp_cX5_leastBy rfl
theorem dX5_leastBy_38 : decode cX5_leastBy 38 = .ok (.iaload, 1) := dq_46 dp_cX5_leastBy rfl
theorem dX5_leastBy_39 : decode cX5_leastBy 39 = .ok (.imul, 1) := dq_104 dp_cX5_leastBy rfl
theorem dX5_leastBy_40 : decode cX5_leastBy 40 = .ok (.goto 4, 3) := dq_167 (v := 4) dp_cX5_leastBy rfl rfl
theorem dX5_leastBy_43 : decode cX5_leastBy 43 = .ok (.iconst 0, 1) := dq_3 dp_cX5_leastBy rfl
theorem dX5_leastBy_44 : decode cX5_leastBy 44 = .ok (.istore 7, 2) := dq_54 dp_cX5_leastBy rfl
theorem dX5_leastBy_46 : decode cX5_leastBy 46 = .ok (.iload 5, 2) := dq_21 dp_cX5_leastBy rfl
theorem dX5_leastBy_48 : decode cX5_leastBy 48 = .ok (.ifCond .le 25, 3) := dq_158 (v := 25) dp_cX5_leastBy rfl rfl
theorem dX5_leastBy_51 : decode cX5_leastBy 51 = .ok (.iload 7, 2) := dq_21 dp_cX5_leastBy rfl
theorem dX5_leastBy_53 : decode cX5_leastBy 53 = .ok (.iload 5, 2) := dq_21 dp_cX5_leastBy rfl
theorem dX5_leastBy_55 : decode cX5_leastBy 55 = .ok (.aload_n 0, 1) := dq_42 dp_cX5_leastBy rfl
theorem dX5_leastBy_56 : decode cX5_leastBy 56 = .ok (.iload_n 2, 1) := dq_28 dp_cX5_leastBy rfl
theorem dX5_leastBy_57 : decode cX5_leastBy 57 = .ok (.iconst 1, 1) := dq_4 dp_cX5_leastBy rfl
theorem dX5_leastBy_58 : decode cX5_leastBy 58 = .ok (.isub, 1) := dq_100 dp_cX5_leastBy rfl
theorem dX5_leastBy_59 : decode cX5_leastBy 59 = .ok (.aload_n 1, 1) := dq_43 dp_cX5_leastBy rfl
theorem dX5_leastBy_60 : decode cX5_leastBy 60 = .ok (.iload_n 3, 1) := dq_29 dp_cX5_leastBy rfl
theorem dX5_leastBy_61 : decode cX5_leastBy 61 = .ok (.invokevirtual 93, 3) := dq_182 dp_cX5_leastBy rfl
theorem dX5_leastBy_64 : decode cX5_leastBy 64 = .ok (.iload 6, 2) := dq_21 dp_cX5_leastBy rfl
theorem dX5_leastBy_66 : decode cX5_leastBy 66 = .ok (.invokevirtual 117, 3) := dq_182 dp_cX5_leastBy rfl
theorem dX5_leastBy_69 : decode cX5_leastBy 69 = .ok (.imul, 1) := dq_104 dp_cX5_leastBy rfl
theorem dX5_leastBy_70 : decode cX5_leastBy 70 = .ok (.iadd, 1) := dq_96 dp_cX5_leastBy rfl
theorem dX5_leastBy_71 : decode cX5_leastBy 71 = .ok (.istore 7, 2) := dq_54 dp_cX5_leastBy rfl
theorem dX5_leastBy_73 : decode cX5_leastBy 73 = .ok (.iload 5, 2) := dq_21 dp_cX5_leastBy rfl
theorem dX5_leastBy_75 : decode cX5_leastBy 75 = .ok (.bipush 12, 2) := dq_16 (v := 12) dp_cX5_leastBy rfl rfl
theorem dX5_leastBy_77 : decode cX5_leastBy 77 = .ok (.if_icmp .ge 32, 3) := dq_162 (v := 32) dp_cX5_leastBy rfl rfl
theorem dX5_leastBy_80 : decode cX5_leastBy 80 = .ok (.iload 7, 2) := dq_21 dp_cX5_leastBy rfl
theorem dX5_leastBy_82 : decode cX5_leastBy 82 = .ok (.bipush 12, 2) := dq_16 (v := 12) dp_cX5_leastBy rfl rfl
theorem dX5_leastBy_84 : decode cX5_leastBy 84 = .ok (.iload 5, 2) := dq_21 dp_cX5_leastBy rfl
theorem dX5_leastBy_86 : decode cX5_leastBy 86 = .ok (.isub, 1) := dq_100 dp_cX5_leastBy rfl
theorem dX5_leastBy_87 : decode cX5_leastBy 87 = .ok (.aload_n 0, 1) := dq_42 dp_cX5_leastBy rfl
theorem dX5_leastBy_88 : decode cX5_leastBy 88 = .ok (.iload_n 2, 1) := dq_28 dp_cX5_leastBy rfl
theorem dX5_leastBy_89 : decode cX5_leastBy 89 = .ok (.iconst 1, 1) := dq_4 dp_cX5_leastBy rfl
theorem dX5_leastBy_90 : decode cX5_leastBy 90 = .ok (.isub, 1) := dq_100 dp_cX5_leastBy rfl
theorem dX5_leastBy_91 : decode cX5_leastBy 91 = .ok (.aload_n 1, 1) := dq_43 dp_cX5_leastBy rfl
theorem dX5_leastBy_92 : decode cX5_leastBy 92 = .ok (.iload_n 3, 1) := dq_29 dp_cX5_leastBy rfl
theorem dX5_leastBy_93 : decode cX5_leastBy 93 = .ok (.aload_n 0, 1) := dq_42 dp_cX5_leastBy rfl
theorem dX5_leastBy_94 : decode cX5_leastBy 94 = .ok (.getfield 31, 3) := dq_180 dp_cX5_leastBy rfl
theorem dX5_leastBy_97 : decode cX5_leastBy 97 = .ok (.invokevirtual 101, 3) := dq_182 dp_cX5_leastBy rfl
theorem dX5_leastBy_100 : decode cX5_leastBy 100 = .ok (.iload 6, 2) := dq_21 dp_cX5_leastBy rfl
theorem dX5_leastBy_102 : decode cX5_leastBy 102 = .ok (.invokevirtual 117, 3) := dq_182 dp_cX5_leastBy rfl
theorem dX5_leastBy_105 : decode cX5_leastBy 105 = .ok (.imul, 1) := dq_104 dp_cX5_leastBy rfl
theorem dX5_leastBy_106 : decode cX5_leastBy 106 = .ok (.iadd, 1) := dq_96 dp_cX5_leastBy rfl
theorem dX5_leastBy_107 : decode cX5_leastBy 107 = .ok (.istore 7, 2) := dq_54 dp_cX5_leastBy rfl
theorem dX5_leastBy_109 : decode cX5_leastBy 109 = .ok (.iload 7, 2) := dq_21 dp_cX5_leastBy rfl
theorem dX5_leastBy_111 : decode cX5_leastBy 111 = .ok (.ireturn, 1) := dq_172 dp_cX5_leastBy rfl
set_option maxRecDepth 20000 in
theorem gl_X5_first_X50 : GoodIn wsX5_first wsX50 := (dg_t (dg_l (dg_r gw_wsX50)))
theorem gl_X5_first_X20 : GoodIn wsX5_first wsX20 := (dg_t (dg_r gw_wsX20))
theorem ggX5_first_X5_least : GoodIn wsX5_first wsX5_least := (dg_c 6 rfl rfl (goodIn_app (goodIn_app (goodIn_app (dg_c 7 rfl rfl (dg_c 8 rfl rfl (dg_c 1 rfl rfl (dg_c 9 rfl rfl (dg_c 10 rfl rfl (dg_c 11 rfl rfl (dg_c 12 rfl rfl (dg_c 13 rfl rfl (dg_c 14 rfl rfl (dg_c 15 rfl rfl (dg_c 5 rfl rfl (dg_c 16 rfl rfl (dg_c 17 rfl rfl (dg_c 18 rfl rfl (dg_c 19 rfl rfl (dg_c 20 rfl rfl (dg_c 21 rfl rfl (dg_c 22 rfl rfl (dg_c 23 rfl rfl (dg_c 24 rfl rfl (dg_c 25 rfl rfl (dg_c 26 rfl rfl (dg_c 27 rfl rfl (dg_c 28 rfl rfl dg_0)))))))))))))))))))))))) (goodIn_app (dg_c 29 rfl rfl (dg_c 30 rfl rfl (dg_c 31 rfl rfl (dg_c 32 rfl rfl (dg_c 33 rfl rfl (dg_c 34 rfl rfl (dg_c 35 rfl rfl (dg_c 36 rfl rfl (dg_c 37 rfl rfl (dg_c 38 rfl rfl (dg_c 39 rfl rfl (dg_c 40 rfl rfl (dg_c 41 rfl rfl (dg_c 42 rfl rfl (dg_c 43 rfl rfl (dg_c 44 rfl rfl (dg_c 45 rfl rfl (dg_c 46 rfl rfl (dg_c 47 rfl rfl (dg_c 48 rfl rfl (dg_c 49 rfl rfl (dg_c 50 rfl rfl (dg_c 51 rfl rfl (dg_c 52 rfl rfl dg_0)))))))))))))))))))))))) (dg_c 53 rfl rfl (dg_c 54 rfl rfl (dg_c 55 rfl rfl (dg_c 56 rfl rfl (dg_c 57 rfl rfl (dg_c 58 rfl rfl (dg_c 59 rfl rfl (dg_c 60 rfl rfl (dg_c 61 rfl rfl (dg_c 62 rfl rfl (dg_c 63 rfl rfl (dg_c 64 rfl rfl (dg_c 65 rfl rfl (dg_c 2 rfl rfl (dg_c 3 rfl rfl (dg_c 4 rfl rfl (dg_c 66 rfl rfl (dg_c 67 rfl rfl (dg_c 68 rfl rfl (dg_c 69 rfl rfl dg_0)))))))))))))))))))))) gl_X5_first_X50) gl_X5_first_X20))
set_option maxRecDepth 20000 in
theorem gX5_first_X5_least : GoodIn wsX5_first (wsV RX5 117 RX5 yX5_least wsX5_least) := goodIn_app (dg_c 2 rfl rfl (dg_c 3 rfl rfl (dg_c 4 rfl rfl (dg_c 5 rfl rfl dg_0)))) ggX5_first_X5_least
set_option maxRecDepth 20000 in
theorem ggX5_first_X5_mayBeAt : GoodIn wsX5_first wsX5_mayBeAt := (dg_c 26 rfl rfl (dg_c 27 rfl rfl (dg_c 28 rfl rfl (dg_c 29 rfl rfl (dg_c 30 rfl rfl (dg_c 31 rfl rfl (dg_c 32 rfl rfl (dg_c 33 rfl rfl (dg_c 34 rfl rfl (dg_c 35 rfl rfl (dg_c 36 rfl rfl (goodIn_app gl_X5_first_X50 gl_X5_first_X20))))))))))))
set_option maxRecDepth 20000 in
theorem gX5_first_X5_mayBeAt : GoodIn wsX5_first (wsV RX5 82 RX5 yX5_mayBeAt wsX5_mayBeAt) := goodIn_app (dg_c 23 rfl rfl (dg_c 24 rfl rfl (dg_c 25 rfl rfl (dg_c 5 rfl rfl dg_0)))) ggX5_first_X5_mayBeAt
set_option maxRecDepth 20000 in
theorem ggX5_first_X5_leastBy : GoodIn wsX5_first wsX5_leastBy := (dg_c 40 rfl rfl (goodIn_app (goodIn_app (goodIn_app (dg_c 41 rfl rfl (dg_c 42 rfl rfl (dg_c 43 rfl rfl (dg_c 17 rfl rfl (dg_c 18 rfl rfl (dg_c 44 rfl rfl (dg_c 45 rfl rfl (dg_c 46 rfl rfl (dg_c 34 rfl rfl (dg_c 47 rfl rfl (dg_c 48 rfl rfl (dg_c 49 rfl rfl (dg_c 10 rfl rfl (dg_c 11 rfl rfl (dg_c 12 rfl rfl (dg_c 50 rfl rfl (dg_c 51 rfl rfl (dg_c 52 rfl rfl (dg_c 53 rfl rfl (dg_c 54 rfl rfl (dg_c 55 rfl rfl (dg_c 56 rfl rfl (dg_c 57 rfl rfl (dg_c 58 rfl rfl dg_0)))))))))))))))))))))))) (goodIn_app (dg_c 59 rfl rfl (dg_c 60 rfl rfl (dg_c 61 rfl rfl (dg_c 62 rfl rfl (dg_c 63 rfl rfl (dg_c 64 rfl rfl (dg_c 65 rfl rfl (dg_c 2 rfl rfl (dg_c 3 rfl rfl (dg_c 4 rfl rfl (dg_c 5 rfl rfl (dg_c 66 rfl rfl (dg_c 67 rfl rfl (dg_c 68 rfl rfl (dg_c 69 rfl rfl (dg_c 6 rfl rfl (dg_c 7 rfl rfl (dg_c 8 rfl rfl (dg_c 1 rfl rfl (dg_c 9 rfl rfl (dg_c 13 rfl rfl (dg_c 14 rfl rfl (dg_c 15 rfl rfl (dg_c 16 rfl rfl dg_0)))))))))))))))))))))))) (dg_c 19 rfl rfl (dg_c 20 rfl rfl (dg_c 21 rfl rfl (dg_c 22 rfl rfl (dg_c 23 rfl rfl (dg_c 24 rfl rfl (dg_c 25 rfl rfl (dg_c 26 rfl rfl (dg_c 27 rfl rfl (dg_c 28 rfl rfl (dg_c 29 rfl rfl (dg_c 30 rfl rfl (dg_c 31 rfl rfl (dg_c 32 rfl rfl (dg_c 33 rfl rfl (dg_c 35 rfl rfl (dg_c 36 rfl rfl (dg_c 37 rfl rfl (dg_c 38 rfl rfl (dg_c 39 rfl rfl dg_0)))))))))))))))))))))) gl_X5_first_X50) gl_X5_first_X20))
set_option maxRecDepth 20000 in
theorem gX5_first_X5_leastBy : GoodIn wsX5_first (wsV RX5 107 RX5 yX5_leastBy wsX5_leastBy) := goodIn_app (dg_c 37 rfl rfl (dg_c 38 rfl rfl (dg_c 39 rfl rfl (dg_c 5 rfl rfl dg_0)))) ggX5_first_X5_leastBy
set_option maxRecDepth 20000 in
theorem ggX5_first_X5_headIsCheapest : GoodIn wsX5_first wsX5_headIsCheapest := (dg_c 22 rfl rfl (dg_c 18 rfl rfl gl_X5_first_X50))
set_option maxRecDepth 20000 in
theorem gX5_first_X5_headIsCheapest : GoodIn wsX5_first (wsV RX5 113 RX5 yX5_headIsCheapest wsX5_headIsCheapest) := goodIn_app (dg_c 19 rfl rfl (dg_c 20 rfl rfl (dg_c 21 rfl rfl (dg_c 5 rfl rfl dg_0)))) ggX5_first_X5_headIsCheapest
theorem dX5_first_0 : decode cX5_first 0 = .ok (.iload_n 2, 1) := dq_28 dp_cX5_first rfl
theorem dX5_first_1 : decode cX5_first 1 = .ok (.ifCond .ne 5, 3) := dq_154 (v := 5) dp_cX5_first rfl rfl
theorem dX5_first_4 : decode cX5_first 4 = .ok (.iconst (-1), 1) := dq_2 dp_cX5_first rfl
theorem dX5_first_5 : decode cX5_first 5 = .ok (.ireturn, 1) := dq_172 dp_cX5_first rfl
theorem dX5_first_6 : decode cX5_first 6 = .ok (.aload_n 0, 1) := dq_42 dp_cX5_first rfl
theorem dX5_first_7 : decode cX5_first 7 = .ok (.iload_n 1, 1) := dq_27 dp_cX5_first rfl
theorem dX5_first_8 : decode cX5_first 8 = .ok (.iload_n 2, 1) := dq_28 dp_cX5_first rfl
theorem dX5_first_9 : decode cX5_first 9 = .ok (.iload_n 3, 1) := dq_29 dp_cX5_first rfl
theorem dX5_first_10 : decode cX5_first 10 = .ok (.invokevirtual 117, 3) := dq_182 dp_cX5_first rfl
theorem dX5_first_13 : decode cX5_first 13 = .ok (.istore 4, 2) := dq_54 dp_cX5_first rfl
theorem dX5_first_15 : decode cX5_first 15 = .ok (.iconst 0, 1) := dq_3 dp_cX5_first rfl
theorem dX5_first_16 : decode cX5_first 16 = .ok (.istore 5, 2) := dq_54 dp_cX5_first rfl
theorem dX5_first_18 : decode cX5_first 18 = .ok (.iload 5, 2) := dq_21 dp_cX5_first rfl
theorem dX5_first_20 : decode cX5_first 20 = .ok (.aload_n 0, 1) := dq_42 dp_cX5_first rfl
theorem dX5_first_21 : decode cX5_first 21 = .ok (.getfield 27, 3) := dq_180 dp_cX5_first rfl
theorem dX5_first_24 : decode cX5_first 24 = .ok (.if_icmp .ge 45, 3) := dq_162 (v := 45) dp_cX5_first rfl rfl
theorem dX5_first_27 : decode cX5_first 27 = .ok (.iload_n 1, 1) := dq_27 dp_cX5_first rfl
theorem dX5_first_28 : decode cX5_first 28 = .ok (.ifCond .le 41, 3) := dq_158 (v := 41) dp_cX5_first rfl rfl
theorem dX5_first_31 : decode cX5_first 31 = .ok (.aload_n 0, 1) := dq_42 dp_cX5_first rfl
theorem dX5_first_32 : decode cX5_first 32 = .ok (.iload 5, 2) := dq_21 dp_cX5_first rfl
theorem dX5_first_34 : decode cX5_first 34 = .ok (.iload_n 2, 1) := dq_28 dp_cX5_first rfl
theorem dX5_first_35 : decode cX5_first 35 = .ok (.iload_n 3, 1) := dq_29 dp_cX5_first rfl
theorem dX5_first_36 : decode cX5_first 36 = .ok (.invokevirtual 82, 3) := dq_182 dp_cX5_first rfl
theorem dX5_first_39 : decode cX5_first 39 = .ok (.astore 6, 2) := dq_58 dp_cX5_first rfl
theorem dX5_first_41 : decode cX5_first 41 = .ok (.aload 6, 2) := dq_25 dp_cX5_first rfl
theorem dX5_first_43 : decode cX5_first 43 = .ok (.ifnull 20, 3) := dq_198 (v := 20) dp_cX5_first rfl rfl
theorem dX5_first_46 : decode cX5_first 46 = .ok (.aload_n 0, 1) := dq_42 dp_cX5_first rfl
theorem dX5_first_47 : decode cX5_first 47 = .ok (.aload 6, 2) := dq_25 dp_cX5_first rfl
theorem dX5_first_49 : decode cX5_first 49 = .ok (.iload_n 1, 1) := dq_27 dp_cX5_first rfl
theorem dX5_first_50 : decode cX5_first 50 = .ok (.iload_n 2, 1) := dq_28 dp_cX5_first rfl
theorem dX5_first_51 : decode cX5_first 51 = .ok (.iload_n 3, 1) := dq_29 dp_cX5_first rfl
theorem dX5_first_52 : decode cX5_first 52 = .ok (.invokevirtual 107, 3) := dq_182 dp_cX5_first rfl
theorem dX5_first_55 : decode cX5_first 55 = .ok (.iload 4, 2) := dq_21 dp_cX5_first rfl
theorem dX5_first_57 : decode cX5_first 57 = .ok (.if_icmp .ne 6, 3) := dq_160 (v := 6) dp_cX5_first rfl rfl
theorem dX5_first_60 : decode cX5_first 60 = .ok (.iload 5, 2) := dq_21 dp_cX5_first rfl
theorem dX5_first_62 : decode cX5_first 62 = .ok (.ireturn, 1) := dq_172 dp_cX5_first rfl
theorem dX5_first_63 : decode cX5_first 63 = .ok (.iinc 5 1, 3) := dq_132 (v := 1) dp_cX5_first rfl (by decide) rfl
theorem dX5_first_66 : decode cX5_first 66 = .ok (.goto (-48), 3) := dq_167 (v := 65488) dp_cX5_first rfl rfl
theorem dX5_first_69 : decode cX5_first 69 = .ok (.aload_n 0, 1) := dq_42 dp_cX5_first rfl
theorem dX5_first_70 : decode cX5_first 70 = .ok (.iload_n 3, 1) := dq_29 dp_cX5_first rfl
theorem dX5_first_71 : decode cX5_first 71 = .ok (.invokevirtual 113, 3) := dq_182 dp_cX5_first rfl
theorem dX5_first_74 : decode cX5_first 74 = .ok (.ifCond .eq 8, 3) := dq_153 (v := 8) dp_cX5_first rfl rfl
theorem dX5_first_77 : decode cX5_first 77 = .ok (.bipush 101, 2) := dq_16 (v := 101) dp_cX5_first rfl rfl
theorem dX5_first_79 : decode cX5_first 79 = .ok (.goto 5, 3) := dq_167 (v := 5) dp_cX5_first rfl rfl
theorem dX5_first_82 : decode cX5_first 82 = .ok (.bipush 100, 2) := dq_16 (v := 100) dp_cX5_first rfl rfl
theorem dX5_first_84 : decode cX5_first 84 = .ok (.ireturn, 1) := dq_172 dp_cX5_first rfl
end
