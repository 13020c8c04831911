theorem hi_X0_setNumber_0 : ∀ w ∈ u_ws RX0 TX0 9, w ∈ wsX0_setNumber := fun w h => (goodIn_r (u_ws RX0 TX0 9) [11, 12, 13, 14, 15, 16, 17, 18, 19] rfl (by decide +kernel) w h).1
theorem hi_X0_setNumber_6 : ∀ w ∈ u_ws RX6 TX6 5, w ∈ wsX0_setNumber := fun w h => (goodIn_r (u_ws RX6 TX6 5) [20, 21, 22, 23, 24] rfl (by decide +kernel) w h).1
set_option maxHeartbeats 4000000 in
set_option maxRecDepth 100000 in
theorem c_J_setNumber (l : Launch) (D : va_G) (cI cJ cZ cP cS : ClassId) (po : zPool) (j0 jp jc z0 zl zs : Nat) (cn de tr se hu sd : Int32) (sz at_ gp : Int32) (fc : Nat → Int32) (w v : Int32) (hy0 : 0 ≤ cn.toInt) (hy1 : cn.toInt ≤ 8) (hy2 : 0 ≤ de.toInt) (hy3 : de.toInt ≤ 24) (hy4 : 0 ≤ hu.toInt) (hy5 : hu.toInt ≤ 9) (hy6 : 4 ≤ sz.toInt) (hy7 : sz.toInt ≤ 40) (hy8 : 0 ≤ at_.toInt) (hy9 : at_.toInt ≤ 40) (hy10 : 1 ≤ gp.toInt) (hy11 : gp.toInt ≤ 9) (hy12 : 0 ≤ w.toInt) (hy13 : w.toInt ≤ 7) (hset : (w.toInt = 0 → v.toInt ≤ 24) ∧ (w.toInt = 2 → v.toInt ≤ 9) ∧ (w.toInt = 3 → 1 ≤ v.toInt ∧ v.toInt ≤ 9) ∧ (w.toInt = 7 → v.toInt ≤ 40) ∧ (4 ≤ w.toInt → w.toInt ≤ 6 → v.toInt ≤ 99) ∧ 0 ≤ v.toInt) (hp_fc : zRg fc (0) 99) (hpz : Nat) : Met l yX0_setNumber wsX0_setNumber ({ frames := 1, cells := 0, slots := 0, locals := 22 }) (va_Pc [.ref j0, .int w, .int v] (zW D (zKT cI cJ cZ cP cS) po [(j0, .inr (0, [.ref z0, .ref jp, .ref jc, .int cn, .int de, .int tr, .int se, .int hu, .int sd])), (z0, .inr (6, [.ref zl, .ref zs, .int sz, .int at_, .int gp])), (jc, .inl (cI, 3, .inl fc))] hpz)) (va_Qv (fun (u : (Int32) × (Int32) × (Int32) × (Int32) × (Int32) × (Nat → Int32)) => (0 ≤ u.1.toInt ∧ u.1.toInt ≤ 24) ∧ (0 ≤ u.2.2.1.toInt ∧ u.2.2.1.toInt ≤ 9) ∧ (0 ≤ u.2.2.2.1.toInt ∧ u.2.2.2.1.toInt ≤ 40) ∧ (1 ≤ u.2.2.2.2.1.toInt ∧ u.2.2.2.2.1.toInt ≤ 9) ∧ zRg u.2.2.2.2.2 (0) 99 ∧ (True)) (zB D [(j0, .inr (0, [.ref z0, .ref jp, .ref jc, .int cn, .int de, .int tr, .int se, .int hu, .int sd])), (z0, .inr (6, [.ref zl, .ref zs, .int sz, .int at_, .int gp])), (jc, .inl (cI, 3, .inl fc))] hpz (fun (u : (Int32) × (Int32) × (Int32) × (Int32) × (Int32) × (Nat → Int32)) => [(j0, .inr (0, [.ref z0, .ref jp, .ref jc, .int cn, .int u.1, .int tr, .int u.2.1, .int u.2.2.1, .int sd])), (z0, .inr (6, [.ref zl, .ref zs, .int sz, .int u.2.2.2.1, .int u.2.2.2.2.1])), (jc, .inl (cI, 3, .inl u.2.2.2.2.2))])) (va_A [(j0, .inr (0, [.ref z0, .ref jp, .ref jc, .int cn, .int de, .int tr, .int se, .int hu, .int sd])), (z0, .inr (6, [.ref zl, .ref zs, .int sz, .int at_, .int gp])), (jc, .inl (cI, 3, .inl fc))] hpz)) 0 0 (va_A [(j0, .inr (0, [.ref z0, .ref jp, .ref jc, .int cn, .int de, .int tr, .int se, .int hu, .int sd])), (z0, .inr (6, [.ref zl, .ref zs, .int sz, .int at_, .int gp])), (jc, .inl (cI, 3, .inl fc))] hpz) := by
  refine Met.ofW (cc := cX0_setNumber) (maxL := 3) (ret := none) (by decide) rfl ?_
  intro p e s m args below meth c s₁ B hml hv
  obtain ⟨rfl, hsz, hP, hK, hD0, hN, hZ⟩ := hv
  have hx := B.exec
  have hb := B.bytes
  have hr := B.returns
  have hts := atoms_spec (ws := wsX0_setNumber) B.pre
  have hown : s.vm.findClass RX0 = some m.cls := findClass_of_methodNamed B.named
  have hlocks := B.notSynchronized
  subst hsz
  have hD := hD0.self (sz := s.heap.size)
  have hA := zA_of hD
  have hl := lv_entry ([.ref j0, .int w, .int v]) (n := 3) (Nat.le_of_ble_eq_true rfl)
  rw [lg_entry_eq]
  generalize (lg_sl ([.ref j0, .int w, .int v]) ++ List.replicate (3 - (lg_sl ([.ref j0, .int w, .int v])).length) Slot.unset).toArray = ls at hl ⊢
  replace hl : lv_has ls 3 [(0, .ref j0), (1, .int w), (2, .int v)] := hl
  refine zw_begin hP hD (fun H locs hP1 hS => ?_)
  clear hP
  have hP := hP1
  clear hP1
  refine lv_iload_n hx hb dX0_setNumber_0 rfl (lv_at hl 1 rfl) ?_
  have hsp : w = 0 ∨ w = 1 ∨ w = 2 ∨ w = 3 ∨ w = 4 ∨ w = 5 ∨ w = 6 ∨ w = 7 := by
    rcases (show w.toInt = 0 ∨ w.toInt = 1 ∨ w.toInt = 2 ∨ w.toInt = 3 ∨ w.toInt = 4 ∨ w.toInt = 5 ∨ w.toInt = 6 ∨ w.toInt = 7 by omega) with h9 | h9 | h9 | h9 | h9 | h9 | h9 | h9
    · refine Or.inl ?_; exact zf_val h9 (by decide)
    · refine Or.inr (Or.inl ?_); exact zf_val h9 (by decide)
    · refine Or.inr (Or.inr (Or.inl ?_)); exact zf_val h9 (by decide)
    · refine Or.inr (Or.inr (Or.inr (Or.inl ?_))); exact zf_val h9 (by decide)
    · refine Or.inr (Or.inr (Or.inr (Or.inr (Or.inl ?_)))); exact zf_val h9 (by decide)
    · refine Or.inr (Or.inr (Or.inr (Or.inr (Or.inr (Or.inl ?_))))); exact zf_val h9 (by decide)
    · refine Or.inr (Or.inr (Or.inr (Or.inr (Or.inr (Or.inr (Or.inl ?_)))))); exact zf_val h9 (by decide)
    · refine Or.inr (Or.inr (Or.inr (Or.inr (Or.inr (Or.inr (Or.inr (?_))))))); exact zf_val h9 (by decide)
  rcases hsp with rfl | rfl | rfl | rfl | rfl | rfl | rfl | rfl
  · have kc0 : (0 : Int32).toInt = 0 := by decide
    refine lv_tableIn (tgt := 48) hx hb dX0_setNumber_1 (by decide) (by decide) rfl (by decide) ?_
    refine lv_aload_n hx hb dX0_setNumber_48 rfl (lv_at hl 0 rfl) ?_
    refine lv_iload_n hx hb dX0_setNumber_49 rfl (lv_at hl 2 rfl) ?_
    refine va_put (D := D) (ci := 0) (v := .int v) (ty := .int) (C := RX0) (T := TX0) (N := 9) hx hb hts hi_X0_setNumber_0 tyX0 tyX0_ok nmX0 hown hK hP hD hS 0 rfl rfl 4 (by decide) (hts (.fieldLink RX0 32 "TheLiningsInIt$Jacket" "depth" "I") (List.mem_of_getElem? (i := 1) rfl)) (fun _ h9 => h9) rfl (by decide +kernel) rfl rfl (Nat.le_of_ble_eq_true rfl) dX0_setNumber_50 (fun H locs hP hD hS => ?_)
    have h9R := zRe (ws' := [(j0, .inr (0, [.ref z0, .ref jp, .ref jc, .int cn, .int v, .int tr, .int se, .int hu, .int sd])), (z0, .inr (6, [.ref zl, .ref zs, .int sz, .int at_, .int gp])), (jc, .inl (cI, 3, .inl fc))]) hP hD rfl
    clear hP hD
    obtain ⟨hP, hD⟩ := h9R
    refine lv_goto (tgt := 114) hx hb dX0_setNumber_53 (by decide) ?_
    exact W.vret hx hb hr (fun t ht hW => ⟨⟨(v, se, hu, at_, gp, fc), rfl, ⟨(show 0 ≤ v.toInt ∧ v.toInt ≤ 24 from ⟨by omega, by omega⟩), (show 0 ≤ hu.toInt ∧ hu.toInt ≤ 9 from ⟨hy4, hy5⟩), (show 0 ≤ at_.toInt ∧ at_.toInt ≤ 40 from ⟨hy8, hy9⟩), (show 1 ≤ gp.toInt ∧ gp.toInt ≤ 9 from ⟨hy10, hy11⟩), hp_fc, trivial⟩, zRet ht hP hD [0, 1, 2] (by decide) rfl⟩, hS.F ht⟩) hS.2.2 dX0_setNumber_114
  · have kc1 : (1 : Int32).toInt = 1 := by decide
    refine lv_tableIn (tgt := 56) hx hb dX0_setNumber_1 (by decide) (by decide) rfl (by decide) ?_
    refine lv_aload_n hx hb dX0_setNumber_56 rfl (lv_at hl 0 rfl) ?_
    refine lv_iload_n hx hb dX0_setNumber_57 rfl (lv_at hl 2 rfl) ?_
    refine va_put (D := D) (ci := 0) (v := .int v) (ty := .int) (C := RX0) (T := TX0) (N := 9) hx hb hts hi_X0_setNumber_0 tyX0 tyX0_ok nmX0 hown hK hP hD hS 0 rfl rfl 6 (by decide) (hts (.fieldLink RX0 38 "TheLiningsInIt$Jacket" "seconds" "I") (List.mem_of_getElem? (i := 2) rfl)) (fun _ h9 => h9) rfl (by decide +kernel) rfl rfl (Nat.le_of_ble_eq_true rfl) dX0_setNumber_58 (fun H locs hP hD hS => ?_)
    have h9R := zRe (ws' := [(j0, .inr (0, [.ref z0, .ref jp, .ref jc, .int cn, .int de, .int tr, .int v, .int hu, .int sd])), (z0, .inr (6, [.ref zl, .ref zs, .int sz, .int at_, .int gp])), (jc, .inl (cI, 3, .inl fc))]) hP hD rfl
    clear hP hD
    obtain ⟨hP, hD⟩ := h9R
    refine lv_goto (tgt := 114) hx hb dX0_setNumber_61 (by decide) ?_
    exact W.vret hx hb hr (fun t ht hW => ⟨⟨(de, v, hu, at_, gp, fc), rfl, ⟨(show 0 ≤ de.toInt ∧ de.toInt ≤ 24 from ⟨hy2, hy3⟩), (show 0 ≤ hu.toInt ∧ hu.toInt ≤ 9 from ⟨hy4, hy5⟩), (show 0 ≤ at_.toInt ∧ at_.toInt ≤ 40 from ⟨hy8, hy9⟩), (show 1 ≤ gp.toInt ∧ gp.toInt ≤ 9 from ⟨hy10, hy11⟩), hp_fc, trivial⟩, zRet ht hP hD [0, 1, 2] (by decide) rfl⟩, hS.F ht⟩) hS.2.2 dX0_setNumber_114
  · have kc2 : (2 : Int32).toInt = 2 := by decide
    refine lv_tableIn (tgt := 64) hx hb dX0_setNumber_1 (by decide) (by decide) rfl (by decide) ?_
    refine lv_aload_n hx hb dX0_setNumber_64 rfl (lv_at hl 0 rfl) ?_
    refine lv_iload_n hx hb dX0_setNumber_65 rfl (lv_at hl 2 rfl) ?_
    refine va_put (D := D) (ci := 0) (v := .int v) (ty := .int) (C := RX0) (T := TX0) (N := 9) hx hb hts hi_X0_setNumber_0 tyX0 tyX0_ok nmX0 hown hK hP hD hS 0 rfl rfl 7 (by decide) (hts (.fieldLink RX0 41 "TheLiningsInIt$Jacket" "hurry" "I") (List.mem_of_getElem? (i := 3) rfl)) (fun _ h9 => h9) rfl (by decide +kernel) rfl rfl (Nat.le_of_ble_eq_true rfl) dX0_setNumber_66 (fun H locs hP hD hS => ?_)
    have h9R := zRe (ws' := [(j0, .inr (0, [.ref z0, .ref jp, .ref jc, .int cn, .int de, .int tr, .int se, .int v, .int sd])), (z0, .inr (6, [.ref zl, .ref zs, .int sz, .int at_, .int gp])), (jc, .inl (cI, 3, .inl fc))]) hP hD rfl
    clear hP hD
    obtain ⟨hP, hD⟩ := h9R
    refine lv_goto (tgt := 114) hx hb dX0_setNumber_69 (by decide) ?_
    exact W.vret hx hb hr (fun t ht hW => ⟨⟨(de, se, v, at_, gp, fc), rfl, ⟨(show 0 ≤ de.toInt ∧ de.toInt ≤ 24 from ⟨hy2, hy3⟩), (show 0 ≤ v.toInt ∧ v.toInt ≤ 9 from ⟨by omega, by omega⟩), (show 0 ≤ at_.toInt ∧ at_.toInt ≤ 40 from ⟨hy8, hy9⟩), (show 1 ≤ gp.toInt ∧ gp.toInt ≤ 9 from ⟨hy10, hy11⟩), hp_fc, trivial⟩, zRet ht hP hD [0, 1, 2] (by decide) rfl⟩, hS.F ht⟩) hS.2.2 dX0_setNumber_114
  · have kc3 : (3 : Int32).toInt = 3 := by decide
    refine lv_tableIn (tgt := 72) hx hb dX0_setNumber_1 (by decide) (by decide) rfl (by decide) ?_
    refine lv_aload_n hx hb dX0_setNumber_72 rfl (lv_at hl 0 rfl) ?_
    refine va_get (D := D) (ci := 0) (v := .ref z0) (C := RX0) (T := TX0) (N := 9) hx hb hts hi_X0_setNumber_0 hown hK hP 0 rfl rfl 0 (by decide) (hts (.fieldLink RX0 12 "TheLiningsInIt$Jacket" "zip" "LTheLiningsInIt$Zip;") (List.mem_of_getElem? (i := 4) rfl)) (fun _ h9 => h9) rfl dX0_setNumber_73 ?_
    refine lv_iload_n hx hb dX0_setNumber_76 rfl (lv_at hl 2 rfl) ?_
    refine va_put (D := D) (ci := 6) (v := .int v) (ty := .int) (C := RX6) (T := TX6) (N := 5) hx hb hts hi_X0_setNumber_6 tyX6 tyX6_ok nmX6 hown hK hP hD hS 1 rfl rfl 4 (by decide) (hts (.fieldLink RX0 60 "TheLiningsInIt$Zip" "gap" "I") (List.mem_of_getElem? (i := 5) rfl)) (fun _ h9 => h9) rfl (by decide +kernel) rfl rfl (Nat.le_of_ble_eq_true rfl) dX0_setNumber_77 (fun H locs hP hD hS => ?_)
    have h9R := zRe (ws' := [(j0, .inr (0, [.ref z0, .ref jp, .ref jc, .int cn, .int de, .int tr, .int se, .int hu, .int sd])), (z0, .inr (6, [.ref zl, .ref zs, .int sz, .int at_, .int v])), (jc, .inl (cI, 3, .inl fc))]) hP hD rfl
    clear hP hD
    obtain ⟨hP, hD⟩ := h9R
    refine lv_goto (tgt := 114) hx hb dX0_setNumber_80 (by decide) ?_
    exact W.vret hx hb hr (fun t ht hW => ⟨⟨(de, se, hu, at_, v, fc), rfl, ⟨(show 0 ≤ de.toInt ∧ de.toInt ≤ 24 from ⟨hy2, hy3⟩), (show 0 ≤ hu.toInt ∧ hu.toInt ≤ 9 from ⟨hy4, hy5⟩), (show 0 ≤ at_.toInt ∧ at_.toInt ≤ 40 from ⟨hy8, hy9⟩), (show 1 ≤ v.toInt ∧ v.toInt ≤ 9 from ⟨by omega, by omega⟩), hp_fc, trivial⟩, zRet ht hP hD [0, 1, 2] (by decide) rfl⟩, hS.F ht⟩) hS.2.2 dX0_setNumber_114
  · have kc4 : (4 : Int32).toInt = 4 := by decide
    refine lv_tableIn (tgt := 94) hx hb dX0_setNumber_1 (by decide) (by decide) rfl (by decide) ?_
    refine lv_iload_n hx hb dX0_setNumber_94 rfl (lv_at hl 1 rfl) ?_
    refine lv_iconst (v := 4) hx hb dX0_setNumber_95 (by decide) ?_
    refine lv_isub hx hb dX0_setNumber_96 ?_
    refine lv_topi (fun y_1 ey_1 => ?_)
    obtain rfl : y_1 = 0 := ey_1.trans (by decide)
    refine lv_iconst (v := 0) hx hb dX0_setNumber_97 (by decide) ?_
    refine lv_iconst (v := 2) hx hb dX0_setNumber_98 (by decide) ?_
    have kc0 : (0 : Int32).toInt = 0 := by decide
    have kc2 : (2 : Int32).toInt = 2 := by decide
    refine zc_SN (As := [.int 0, .int 0, .int 2]) (rest := []) ⟨hx, hb, hml, hown, hts⟩ (c_within l D cI cJ cZ cP cS po (0) (0) (2) ) ⟨(va_cnB 3 hts gX0_setNumber_X7_within_n66 rfl rfl rfl (hN.1 (RX0, 66, yX7_within) (List.mem_of_getElem? (i := 6) rfl)) (hts _ (List.mem_of_getElem? (i := 9) rfl)) (by decide +kernel) ⟨Nat.le_of_ble_eq_true rfl, Nat.le_of_ble_eq_true rfl⟩), (hts _ (List.mem_of_getElem? (i := 8) rfl)), trivial⟩ hK hN (hZ.kept hS) rfl hl.1 rfl (Nat.le_of_ble_eq_true rfl) dX0_setNumber_99 ⟨Nat.le_of_ble_eq_true rfl, Nat.le_of_ble_eq_true rfl⟩ (fun r_2 hr_2 => ?_)
    rcases hr_2 with ⟨rfl, g_3⟩ | ⟨rfl, g_4, g_5⟩ | ⟨rfl, g_6, g_7⟩
    · exfalso; omega
    · exfalso; omega
    · refine lv_if_eq (tgt := 114) hx hb dX0_setNumber_102 (by decide) (fun c_8 => ?_) (fun c_8 => ?_)
      · exact absurd c_8 (by decide)
      · refine lv_aload_n hx hb dX0_setNumber_105 rfl (lv_at hl 0 rfl) ?_
        refine va_get (D := D) (ci := 0) (v := .ref jc) (C := RX0) (T := TX0) (N := 9) hx hb hts hi_X0_setNumber_0 hown hK hP 0 rfl rfl 2 (by decide) (hts (.fieldLink RX0 24 "TheLiningsInIt$Jacket" "costs" "[I") (List.mem_of_getElem? (i := 7) rfl)) (fun _ h9 => h9) rfl dX0_setNumber_106 ?_
        refine lv_iload_n hx hb dX0_setNumber_109 rfl (lv_at hl 1 rfl) ?_
        refine lv_iconst (v := 4) hx hb dX0_setNumber_110 (by decide) ?_
        refine lv_isub hx hb dX0_setNumber_111 ?_
        refine lv_topi (fun y_9 ey_9 => ?_)
        obtain rfl : y_9 = 0 := ey_9.trans (by decide)
        refine lv_iload_n hx hb dX0_setNumber_112 rfl (lv_at hl 2 rfl) ?_
        refine va_iast hx hb hK hP hD hS 2 0 rfl rfl (zf_in (by decide) (by decide)) dX0_setNumber_113 (fun H locs hP hD hS => ?_)
        have hpg_10 : zRg (upd fc (0 : Int32).toNatClampNeg v) (0) 99 := zRg_upd hp_fc (by omega) (by omega)
        obtain ⟨g_10, hg_10⟩ : ∃ g : Nat → Int32, g = upd fc (0 : Int32).toNatClampNeg v := ⟨_, rfl⟩
        rw [← hg_10] at hP hD hpg_10
        clear hg_10
        have h9R := zRe (ws' := [(j0, .inr (0, [.ref z0, .ref jp, .ref jc, .int cn, .int de, .int tr, .int se, .int hu, .int sd])), (z0, .inr (6, [.ref zl, .ref zs, .int sz, .int at_, .int gp])), (jc, .inl (cI, 3, .inl g_10))]) hP hD rfl
        clear hP hD
        obtain ⟨hP, hD⟩ := h9R
        exact W.vret hx hb hr (fun t ht hW => ⟨⟨(de, se, hu, at_, gp, g_10), rfl, ⟨(show 0 ≤ de.toInt ∧ de.toInt ≤ 24 from ⟨hy2, hy3⟩), (show 0 ≤ hu.toInt ∧ hu.toInt ≤ 9 from ⟨hy4, hy5⟩), (show 0 ≤ at_.toInt ∧ at_.toInt ≤ 40 from ⟨hy8, hy9⟩), (show 1 ≤ gp.toInt ∧ gp.toInt ≤ 9 from ⟨hy10, hy11⟩), hpg_10, trivial⟩, zRet ht hP hD [0, 1, 2] (by decide) rfl⟩, hS.F ht⟩) hS.2.2 dX0_setNumber_114
  · have kc5 : (5 : Int32).toInt = 5 := by decide
    refine lv_tableIn (tgt := 94) hx hb dX0_setNumber_1 (by decide) (by decide) rfl (by decide) ?_
    refine lv_iload_n hx hb dX0_setNumber_94 rfl (lv_at hl 1 rfl) ?_
    refine lv_iconst (v := 4) hx hb dX0_setNumber_95 (by decide) ?_
    refine lv_isub hx hb dX0_setNumber_96 ?_
    refine lv_topi (fun y_11 ey_11 => ?_)
    obtain rfl : y_11 = 1 := ey_11.trans (by decide)
    refine lv_iconst (v := 0) hx hb dX0_setNumber_97 (by decide) ?_
    refine lv_iconst (v := 2) hx hb dX0_setNumber_98 (by decide) ?_
    have kc1 : (1 : Int32).toInt = 1 := by decide
    have kc0 : (0 : Int32).toInt = 0 := by decide
    have kc2 : (2 : Int32).toInt = 2 := by decide
    refine zc_SN (As := [.int 1, .int 0, .int 2]) (rest := []) ⟨hx, hb, hml, hown, hts⟩ (c_within l D cI cJ cZ cP cS po (1) (0) (2) ) ⟨(va_cnB 3 hts gX0_setNumber_X7_within_n66 rfl rfl rfl (hN.1 (RX0, 66, yX7_within) (List.mem_of_getElem? (i := 6) rfl)) (hts _ (List.mem_of_getElem? (i := 9) rfl)) (by decide +kernel) ⟨Nat.le_of_ble_eq_true rfl, Nat.le_of_ble_eq_true rfl⟩), (hts _ (List.mem_of_getElem? (i := 8) rfl)), trivial⟩ hK hN (hZ.kept hS) rfl hl.1 rfl (Nat.le_of_ble_eq_true rfl) dX0_setNumber_99 ⟨Nat.le_of_ble_eq_true rfl, Nat.le_of_ble_eq_true rfl⟩ (fun r_12 hr_12 => ?_)
    rcases hr_12 with ⟨rfl, g_13⟩ | ⟨rfl, g_14, g_15⟩ | ⟨rfl, g_16, g_17⟩
    · exfalso; omega
    · exfalso; omega
    · refine lv_if_eq (tgt := 114) hx hb dX0_setNumber_102 (by decide) (fun c_18 => ?_) (fun c_18 => ?_)
      · exact absurd c_18 (by decide)
      · refine lv_aload_n hx hb dX0_setNumber_105 rfl (lv_at hl 0 rfl) ?_
        refine va_get (D := D) (ci := 0) (v := .ref jc) (C := RX0) (T := TX0) (N := 9) hx hb hts hi_X0_setNumber_0 hown hK hP 0 rfl rfl 2 (by decide) (hts (.fieldLink RX0 24 "TheLiningsInIt$Jacket" "costs" "[I") (List.mem_of_getElem? (i := 7) rfl)) (fun _ h9 => h9) rfl dX0_setNumber_106 ?_
        refine lv_iload_n hx hb dX0_setNumber_109 rfl (lv_at hl 1 rfl) ?_
        refine lv_iconst (v := 4) hx hb dX0_setNumber_110 (by decide) ?_
        refine lv_isub hx hb dX0_setNumber_111 ?_
        refine lv_topi (fun y_19 ey_19 => ?_)
        obtain rfl : y_19 = 1 := ey_19.trans (by decide)
        refine lv_iload_n hx hb dX0_setNumber_112 rfl (lv_at hl 2 rfl) ?_
        refine va_iast hx hb hK hP hD hS 2 0 rfl rfl (zf_in (by decide) (by decide)) dX0_setNumber_113 (fun H locs hP hD hS => ?_)
        have hpg_20 : zRg (upd fc (1 : Int32).toNatClampNeg v) (0) 99 := zRg_upd hp_fc (by omega) (by omega)
        obtain ⟨g_20, hg_20⟩ : ∃ g : Nat → Int32, g = upd fc (1 : Int32).toNatClampNeg v := ⟨_, rfl⟩
        rw [← hg_20] at hP hD hpg_20
        clear hg_20
        have h9R := zRe (ws' := [(j0, .inr (0, [.ref z0, .ref jp, .ref jc, .int cn, .int de, .int tr, .int se, .int hu, .int sd])), (z0, .inr (6, [.ref zl, .ref zs, .int sz, .int at_, .int gp])), (jc, .inl (cI, 3, .inl g_20))]) hP hD rfl
        clear hP hD
        obtain ⟨hP, hD⟩ := h9R
        exact W.vret hx hb hr (fun t ht hW => ⟨⟨(de, se, hu, at_, gp, g_20), rfl, ⟨(show 0 ≤ de.toInt ∧ de.toInt ≤ 24 from ⟨hy2, hy3⟩), (show 0 ≤ hu.toInt ∧ hu.toInt ≤ 9 from ⟨hy4, hy5⟩), (show 0 ≤ at_.toInt ∧ at_.toInt ≤ 40 from ⟨hy8, hy9⟩), (show 1 ≤ gp.toInt ∧ gp.toInt ≤ 9 from ⟨hy10, hy11⟩), hpg_20, trivial⟩, zRet ht hP hD [0, 1, 2] (by decide) rfl⟩, hS.F ht⟩) hS.2.2 dX0_setNumber_114
  · have kc6 : (6 : Int32).toInt = 6 := by decide
    refine lv_tableIn (tgt := 94) hx hb dX0_setNumber_1 (by decide) (by decide) rfl (by decide) ?_
    refine lv_iload_n hx hb dX0_setNumber_94 rfl (lv_at hl 1 rfl) ?_
    refine lv_iconst (v := 4) hx hb dX0_setNumber_95 (by decide) ?_
    refine lv_isub hx hb dX0_setNumber_96 ?_
    refine lv_topi (fun y_21 ey_21 => ?_)
    obtain rfl : y_21 = 2 := ey_21.trans (by decide)
    refine lv_iconst (v := 0) hx hb dX0_setNumber_97 (by decide) ?_
    refine lv_iconst (v := 2) hx hb dX0_setNumber_98 (by decide) ?_
    have kc2 : (2 : Int32).toInt = 2 := by decide
    have kc0 : (0 : Int32).toInt = 0 := by decide
    refine zc_SN (As := [.int 2, .int 0, .int 2]) (rest := []) ⟨hx, hb, hml, hown, hts⟩ (c_within l D cI cJ cZ cP cS po (2) (0) (2) ) ⟨(va_cnB 3 hts gX0_setNumber_X7_within_n66 rfl rfl rfl (hN.1 (RX0, 66, yX7_within) (List.mem_of_getElem? (i := 6) rfl)) (hts _ (List.mem_of_getElem? (i := 9) rfl)) (by decide +kernel) ⟨Nat.le_of_ble_eq_true rfl, Nat.le_of_ble_eq_true rfl⟩), (hts _ (List.mem_of_getElem? (i := 8) rfl)), trivial⟩ hK hN (hZ.kept hS) rfl hl.1 rfl (Nat.le_of_ble_eq_true rfl) dX0_setNumber_99 ⟨Nat.le_of_ble_eq_true rfl, Nat.le_of_ble_eq_true rfl⟩ (fun r_22 hr_22 => ?_)
    rcases hr_22 with ⟨rfl, g_23⟩ | ⟨rfl, g_24, g_25⟩ | ⟨rfl, g_26, g_27⟩
    · exfalso; omega
    · exfalso; omega
    · refine lv_if_eq (tgt := 114) hx hb dX0_setNumber_102 (by decide) (fun c_28 => ?_) (fun c_28 => ?_)
      · exact absurd c_28 (by decide)
      · refine lv_aload_n hx hb dX0_setNumber_105 rfl (lv_at hl 0 rfl) ?_
        refine va_get (D := D) (ci := 0) (v := .ref jc) (C := RX0) (T := TX0) (N := 9) hx hb hts hi_X0_setNumber_0 hown hK hP 0 rfl rfl 2 (by decide) (hts (.fieldLink RX0 24 "TheLiningsInIt$Jacket" "costs" "[I") (List.mem_of_getElem? (i := 7) rfl)) (fun _ h9 => h9) rfl dX0_setNumber_106 ?_
        refine lv_iload_n hx hb dX0_setNumber_109 rfl (lv_at hl 1 rfl) ?_
        refine lv_iconst (v := 4) hx hb dX0_setNumber_110 (by decide) ?_
        refine lv_isub hx hb dX0_setNumber_111 ?_
        refine lv_topi (fun y_29 ey_29 => ?_)
        obtain rfl : y_29 = 2 := ey_29.trans (by decide)
        refine lv_iload_n hx hb dX0_setNumber_112 rfl (lv_at hl 2 rfl) ?_
        refine va_iast hx hb hK hP hD hS 2 0 rfl rfl (zf_in (by decide) (by decide)) dX0_setNumber_113 (fun H locs hP hD hS => ?_)
        have hpg_30 : zRg (upd fc (2 : Int32).toNatClampNeg v) (0) 99 := zRg_upd hp_fc (by omega) (by omega)
        obtain ⟨g_30, hg_30⟩ : ∃ g : Nat → Int32, g = upd fc (2 : Int32).toNatClampNeg v := ⟨_, rfl⟩
        rw [← hg_30] at hP hD hpg_30
        clear hg_30
        have h9R := zRe (ws' := [(j0, .inr (0, [.ref z0, .ref jp, .ref jc, .int cn, .int de, .int tr, .int se, .int hu, .int sd])), (z0, .inr (6, [.ref zl, .ref zs, .int sz, .int at_, .int gp])), (jc, .inl (cI, 3, .inl g_30))]) hP hD rfl
        clear hP hD
        obtain ⟨hP, hD⟩ := h9R
        exact W.vret hx hb hr (fun t ht hW => ⟨⟨(de, se, hu, at_, gp, g_30), rfl, ⟨(show 0 ≤ de.toInt ∧ de.toInt ≤ 24 from ⟨hy2, hy3⟩), (show 0 ≤ hu.toInt ∧ hu.toInt ≤ 9 from ⟨hy4, hy5⟩), (show 0 ≤ at_.toInt ∧ at_.toInt ≤ 40 from ⟨hy8, hy9⟩), (show 1 ≤ gp.toInt ∧ gp.toInt ≤ 9 from ⟨hy10, hy11⟩), hpg_30, trivial⟩, zRet ht hP hD [0, 1, 2] (by decide) rfl⟩, hS.F ht⟩) hS.2.2 dX0_setNumber_114
  · have kc7 : (7 : Int32).toInt = 7 := by decide
    refine lv_tableIn (tgt := 83) hx hb dX0_setNumber_1 (by decide) (by decide) rfl (by decide) ?_
    refine lv_aload_n hx hb dX0_setNumber_83 rfl (lv_at hl 0 rfl) ?_
    refine va_get (D := D) (ci := 0) (v := .ref z0) (C := RX0) (T := TX0) (N := 9) hx hb hts hi_X0_setNumber_0 hown hK hP 0 rfl rfl 0 (by decide) (hts (.fieldLink RX0 12 "TheLiningsInIt$Jacket" "zip" "LTheLiningsInIt$Zip;") (List.mem_of_getElem? (i := 4) rfl)) (fun _ h9 => h9) rfl dX0_setNumber_84 ?_
    refine lv_iload_n hx hb dX0_setNumber_87 rfl (lv_at hl 2 rfl) ?_
    refine va_put (D := D) (ci := 6) (v := .int v) (ty := .int) (C := RX6) (T := TX6) (N := 5) hx hb hts hi_X0_setNumber_6 tyX6 tyX6_ok nmX6 hown hK hP hD hS 1 rfl rfl 3 (by decide) (hts (.fieldLink RX0 63 "TheLiningsInIt$Zip" "at" "I") (List.mem_of_getElem? (i := 6) rfl)) (fun _ h9 => h9) rfl (by decide +kernel) rfl rfl (Nat.le_of_ble_eq_true rfl) dX0_setNumber_88 (fun H locs hP hD hS => ?_)
    have h9R := zRe (ws' := [(j0, .inr (0, [.ref z0, .ref jp, .ref jc, .int cn, .int de, .int tr, .int se, .int hu, .int sd])), (z0, .inr (6, [.ref zl, .ref zs, .int sz, .int v, .int gp])), (jc, .inl (cI, 3, .inl fc))]) hP hD rfl
    clear hP hD
    obtain ⟨hP, hD⟩ := h9R
    refine lv_goto (tgt := 114) hx hb dX0_setNumber_91 (by decide) ?_
    exact W.vret hx hb hr (fun t ht hW => ⟨⟨(de, se, hu, v, gp, fc), rfl, ⟨(show 0 ≤ de.toInt ∧ de.toInt ≤ 24 from ⟨hy2, hy3⟩), (show 0 ≤ hu.toInt ∧ hu.toInt ≤ 9 from ⟨hy4, hy5⟩), (show 0 ≤ v.toInt ∧ v.toInt ≤ 40 from ⟨by omega, by omega⟩), (show 1 ≤ gp.toInt ∧ gp.toInt ≤ 9 from ⟨hy10, hy11⟩), hp_fc, trivial⟩, zRet ht hP hD [0, 1, 2] (by decide) rfl⟩, hS.F ht⟩) hS.2.2 dX0_setNumber_114
theorem hi_X0_draw_0 : ∀ w ∈ u_ws RX0 TX0 9, w ∈ wsX0_draw := fun w h => (goodIn_r (u_ws RX0 TX0 9) [3, 4, 5, 6, 7, 8, 9, 10, 11] rfl (by decide +kernel) w h).1
set_option maxHeartbeats 4000000 in
set_option maxRecDepth 100000 in
theorem c_J_draw_6 (l : Launch) (D : va_G) (cI cJ cZ cP cS : ClassId) (po : zPool) (j0 jp jc z0 zl zs : Nat) (cn de tr se hu sd : Int32) (hy0 : 0 ≤ cn.toInt) (hy1 : cn.toInt ≤ 8) (hy2 : 0 ≤ de.toInt) (hy3 : de.toInt ≤ 24) (hy4 : 0 ≤ hu.toInt) (hy5 : hu.toInt ≤ 9) (hpz : Nat) : Met l yX0_draw wsX0_draw ({ frames := 0, cells := 0, slots := 0, locals := 0 }) (va_Pc [.ref j0, .int 6] (zW D (zKT cI cJ cZ cP cS) po [(j0, .inr (0, [.ref z0, .ref jp, .ref jc, .int cn, .int de, .int tr, .int se, .int hu, .int sd]))] hpz)) (va_Qi (fun (r : Int32) (sd2 : (Int32)) => 0 ≤ r.toInt ∧ r.toInt ≤ 5) (zB D [(j0, .inr (0, [.ref z0, .ref jp, .ref jc, .int cn, .int de, .int tr, .int se, .int hu, .int sd]))] hpz (fun (sd2 : Int32) => [(j0, .inr (0, [.ref z0, .ref jp, .ref jc, .int cn, .int de, .int tr, .int se, .int hu, .int sd2]))])) (va_A [(j0, .inr (0, [.ref z0, .ref jp, .ref jc, .int cn, .int de, .int tr, .int se, .int hu, .int sd]))] hpz)) 0 0 (va_A [(j0, .inr (0, [.ref z0, .ref jp, .ref jc, .int cn, .int de, .int tr, .int se, .int hu, .int sd]))] hpz) := by
  refine Met.ofW (cc := cX0_draw) (maxL := 2) (ret := (some .int)) (by decide) rfl ?_
  intro p e s m args below meth c s₁ B hml hv
  obtain ⟨rfl, hsz, hP, hK, hD0, hN, hZ⟩ := hv
  have hx := B.exec
  have hb := B.bytes
  have hr := B.returns
  have hts := atoms_spec (ws := wsX0_draw) B.pre
  have hown : s.vm.findClass RX0 = some m.cls := findClass_of_methodNamed B.named
  have hlocks := B.notSynchronized
  subst hsz
  have hD := hD0.self (sz := s.heap.size)
  have hA := zA_of hD
  have hl := lv_entry ([.ref j0, .int 6]) (n := 2) (Nat.le_of_ble_eq_true rfl)
  rw [lg_entry_eq]
  generalize (lg_sl ([.ref j0, .int 6]) ++ List.replicate (2 - (lg_sl ([.ref j0, .int 6])).length) Slot.unset).toArray = ls at hl ⊢
  replace hl : lv_has ls 2 [(0, .ref j0), (1, .int 6)] := hl
  refine zw_begin hP hD (fun H locs hP1 hS => ?_)
  clear hP
  have hP := hP1
  clear hP1
  refine lv_aload_n hx hb dX0_draw_0 rfl (lv_at hl 0 rfl) ?_
  refine lv_aload_n hx hb dX0_draw_1 rfl (lv_at hl 0 rfl) ?_
  refine va_get (D := D) (ci := 0) (v := .int sd) (C := RX0) (T := TX0) (N := 9) hx hb hts hi_X0_draw_0 hown hK hP 0 rfl rfl 8 (by decide) (hts (.fieldLink RX0 44 "TheLiningsInIt$Jacket" "seedNow" "I") (List.mem_of_getElem? (i := 1) rfl)) (fun _ h9 => h9) rfl dX0_draw_2 ?_
  refine lv_ldc (own := RX0) (v := 1103515245) hx hb hown (hts _ (List.mem_of_getElem? (i := 2) rfl)) dX0_draw_5 ?_
  refine lv_imul hx hb dX0_draw_7 ?_
  refine lv_topi (fun x_1 ex_1 => ?_)
  refine lv_sipush (v := 12345) hx hb dX0_draw_8 (by decide) ?_
  refine lv_iadd hx hb dX0_draw_11 ?_
  refine lv_topi (fun x_2 ex_2 => ?_)
  refine va_put (D := D) (ci := 0) (v := .int x_2) (ty := .int) (C := RX0) (T := TX0) (N := 9) hx hb hts hi_X0_draw_0 tyX0 tyX0_ok nmX0 hown hK hP hD hS 0 rfl rfl 8 (by decide) (hts (.fieldLink RX0 44 "TheLiningsInIt$Jacket" "seedNow" "I") (List.mem_of_getElem? (i := 1) rfl)) (fun _ h9 => h9) rfl (by decide +kernel) rfl rfl (Nat.le_of_ble_eq_true rfl) dX0_draw_12 (fun H locs hP hD hS => ?_)
  have h9R := zRe (ws' := [(j0, .inr (0, [.ref z0, .ref jp, .ref jc, .int cn, .int de, .int tr, .int se, .int hu, .int x_2]))]) hP hD rfl
  clear hP hD
  obtain ⟨hP, hD⟩ := h9R
  refine lv_iload_n hx hb dX0_draw_15 rfl (lv_at hl 1 rfl) ?_
  refine lv_iconst (v := 1) hx hb dX0_draw_16 (by decide) ?_
  refine lv_icmp_ge (tgt := 24) hx hb dX0_draw_17 (by decide) (fun c_3 => ?_) (fun c_3 => ?_)
  · refine lv_aload_n hx hb dX0_draw_24 rfl (lv_at hl 0 rfl) ?_
    refine va_get (D := D) (ci := 0) (v := .int x_2) (C := RX0) (T := TX0) (N := 9) hx hb hts hi_X0_draw_0 hown hK hP 0 rfl rfl 8 (by decide) (hts (.fieldLink RX0 44 "TheLiningsInIt$Jacket" "seedNow" "I") (List.mem_of_getElem? (i := 1) rfl)) (fun _ h9 => h9) rfl dX0_draw_25 ?_
    refine lv_bipush (v := 16) hx hb dX0_draw_28 (by decide) ?_
    refine lv_iushr hx hb dX0_draw_30 rfl ?_
    refine lv_topi (fun x_4 ex_4 => ?_)
    have bx_4 : 0 ≤ x_4.toInt ∧ x_4.toInt ≤ 65535 := by rw [ex_4]; exact zf_ushr
    refine lv_iload_n hx hb dX0_draw_31 rfl (lv_at hl 1 rfl) ?_
    refine lv_irem hx hb dX0_draw_32 (by decide) ?_
    refine lv_topi (fun x_5 ex_5 => ?_)
    have qx_5 : x_5.toInt = x_4.toInt - x_4.toInt / 6 * 6 := by rw [ex_5]; exact zf_rem rfl (by decide) (by omega) (by omega)
    exact W.iret (v := x_5) hx hb hr (fun t ht hW => ⟨⟨x_5, x_2, rfl, ⟨by omega, by omega⟩, zRet ht hP hD [0] (by decide) rfl⟩, hS.F ht⟩) hS.2.2 dX0_draw_33
  · exact absurd c_3 (by decide)
set_option maxHeartbeats 4000000 in
set_option maxRecDepth 100000 in
theorem c_J_draw_10 (l : Launch) (D : va_G) (cI cJ cZ cP cS : ClassId) (po : zPool) (j0 jp jc z0 zl zs : Nat) (cn de tr se hu sd : Int32) (hy0 : 0 ≤ cn.toInt) (hy1 : cn.toInt ≤ 8) (hy2 : 0 ≤ de.toInt) (hy3 : de.toInt ≤ 24) (hy4 : 0 ≤ hu.toInt) (hy5 : hu.toInt ≤ 9) (hpz : Nat) : Met l yX0_draw wsX0_draw ({ frames := 0, cells := 0, slots := 0, locals := 0 }) (va_Pc [.ref j0, .int 10] (zW D (zKT cI cJ cZ cP cS) po [(j0, .inr (0, [.ref z0, .ref jp, .ref jc, .int cn, .int de, .int tr, .int se, .int hu, .int sd]))] hpz)) (va_Qi (fun (r : Int32) (sd2 : (Int32)) => 0 ≤ r.toInt ∧ r.toInt ≤ 9) (zB D [(j0, .inr (0, [.ref z0, .ref jp, .ref jc, .int cn, .int de, .int tr, .int se, .int hu, .int sd]))] hpz (fun (sd2 : Int32) => [(j0, .inr (0, [.ref z0, .ref jp, .ref jc, .int cn, .int de, .int tr, .int se, .int hu, .int sd2]))])) (va_A [(j0, .inr (0, [.ref z0, .ref jp, .ref jc, .int cn, .int de, .int tr, .int se, .int hu, .int sd]))] hpz)) 0 0 (va_A [(j0, .inr (0, [.ref z0, .ref jp, .ref jc, .int cn, .int de, .int tr, .int se, .int hu, .int sd]))] hpz) := by
  refine Met.ofW (cc := cX0_draw) (maxL := 2) (ret := (some .int)) (by decide) rfl ?_
  intro p e s m args below meth c s₁ B hml hv
  obtain ⟨rfl, hsz, hP, hK, hD0, hN, hZ⟩ := hv
  have hx := B.exec
  have hb := B.bytes
  have hr := B.returns
  have hts := atoms_spec (ws := wsX0_draw) B.pre
  have hown : s.vm.findClass RX0 = some m.cls := findClass_of_methodNamed B.named
  have hlocks := B.notSynchronized
  subst hsz
  have hD := hD0.self (sz := s.heap.size)
  have hA := zA_of hD
  have hl := lv_entry ([.ref j0, .int 10]) (n := 2) (Nat.le_of_ble_eq_true rfl)
  rw [lg_entry_eq]
  generalize (lg_sl ([.ref j0, .int 10]) ++ List.replicate (2 - (lg_sl ([.ref j0, .int 10])).length) Slot.unset).toArray = ls at hl ⊢
  replace hl : lv_has ls 2 [(0, .ref j0), (1, .int 10)] := hl
  refine zw_begin hP hD (fun H locs hP1 hS => ?_)
  clear hP
  have hP := hP1
  clear hP1
  refine lv_aload_n hx hb dX0_draw_0 rfl (lv_at hl 0 rfl) ?_
  refine lv_aload_n hx hb dX0_draw_1 rfl (lv_at hl 0 rfl) ?_
  refine va_get (D := D) (ci := 0) (v := .int sd) (C := RX0) (T := TX0) (N := 9) hx hb hts hi_X0_draw_0 hown hK hP 0 rfl rfl 8 (by decide) (hts (.fieldLink RX0 44 "TheLiningsInIt$Jacket" "seedNow" "I") (List.mem_of_getElem? (i := 1) rfl)) (fun _ h9 => h9) rfl dX0_draw_2 ?_
  refine lv_ldc (own := RX0) (v := 1103515245) hx hb hown (hts _ (List.mem_of_getElem? (i := 2) rfl)) dX0_draw_5 ?_
  refine lv_imul hx hb dX0_draw_7 ?_
  refine lv_topi (fun x_1 ex_1 => ?_)
  refine lv_sipush (v := 12345) hx hb dX0_draw_8 (by decide) ?_
  refine lv_iadd hx hb dX0_draw_11 ?_
  refine lv_topi (fun x_2 ex_2 => ?_)
  refine va_put (D := D) (ci := 0) (v := .int x_2) (ty := .int) (C := RX0) (T := TX0) (N := 9) hx hb hts hi_X0_draw_0 tyX0 tyX0_ok nmX0 hown hK hP hD hS 0 rfl rfl 8 (by decide) (hts (.fieldLink RX0 44 "TheLiningsInIt$Jacket" "seedNow" "I") (List.mem_of_getElem? (i := 1) rfl)) (fun _ h9 => h9) rfl (by decide +kernel) rfl rfl (Nat.le_of_ble_eq_true rfl) dX0_draw_12 (fun H locs hP hD hS => ?_)
  have h9R := zRe (ws' := [(j0, .inr (0, [.ref z0, .ref jp, .ref jc, .int cn, .int de, .int tr, .int se, .int hu, .int x_2]))]) hP hD rfl
  clear hP hD
  obtain ⟨hP, hD⟩ := h9R
  refine lv_iload_n hx hb dX0_draw_15 rfl (lv_at hl 1 rfl) ?_
  refine lv_iconst (v := 1) hx hb dX0_draw_16 (by decide) ?_
  refine lv_icmp_ge (tgt := 24) hx hb dX0_draw_17 (by decide) (fun c_3 => ?_) (fun c_3 => ?_)
  · refine lv_aload_n hx hb dX0_draw_24 rfl (lv_at hl 0 rfl) ?_
    refine va_get (D := D) (ci := 0) (v := .int x_2) (C := RX0) (T := TX0) (N := 9) hx hb hts hi_X0_draw_0 hown hK hP 0 rfl rfl 8 (by decide) (hts (.fieldLink RX0 44 "TheLiningsInIt$Jacket" "seedNow" "I") (List.mem_of_getElem? (i := 1) rfl)) (fun _ h9 => h9) rfl dX0_draw_25 ?_
    refine lv_bipush (v := 16) hx hb dX0_draw_28 (by decide) ?_
    refine lv_iushr hx hb dX0_draw_30 rfl ?_
    refine lv_topi (fun x_4 ex_4 => ?_)
    have bx_4 : 0 ≤ x_4.toInt ∧ x_4.toInt ≤ 65535 := by rw [ex_4]; exact zf_ushr
    refine lv_iload_n hx hb dX0_draw_31 rfl (lv_at hl 1 rfl) ?_
    refine lv_irem hx hb dX0_draw_32 (by decide) ?_
    refine lv_topi (fun x_5 ex_5 => ?_)
    have qx_5 : x_5.toInt = x_4.toInt - x_4.toInt / 10 * 10 := by rw [ex_5]; exact zf_rem rfl (by decide) (by omega) (by omega)
    exact W.iret (v := x_5) hx hb hr (fun t ht hW => ⟨⟨x_5, x_2, rfl, ⟨by omega, by omega⟩, zRet ht hP hD [0] (by decide) rfl⟩, hS.F ht⟩) hS.2.2 dX0_draw_33
  · exact absurd c_3 (by decide)
set_option maxHeartbeats 4000000 in
set_option maxRecDepth 100000 in
theorem c_J_draw_12 (l : Launch) (D : va_G) (cI cJ cZ cP cS : ClassId) (po : zPool) (j0 jp jc z0 zl zs : Nat) (cn de tr se hu sd : Int32) (hy0 : 0 ≤ cn.toInt) (hy1 : cn.toInt ≤ 8) (hy2 : 0 ≤ de.toInt) (hy3 : de.toInt ≤ 24) (hy4 : 0 ≤ hu.toInt) (hy5 : hu.toInt ≤ 9) (hpz : Nat) : Met l yX0_draw wsX0_draw ({ frames := 0, cells := 0, slots := 0, locals := 0 }) (va_Pc [.ref j0, .int 12] (zW D (zKT cI cJ cZ cP cS) po [(j0, .inr (0, [.ref z0, .ref jp, .ref jc, .int cn, .int de, .int tr, .int se, .int hu, .int sd]))] hpz)) (va_Qi (fun (r : Int32) (sd2 : (Int32)) => 0 ≤ r.toInt ∧ r.toInt ≤ 11) (zB D [(j0, .inr (0, [.ref z0, .ref jp, .ref jc, .int cn, .int de, .int tr, .int se, .int hu, .int sd]))] hpz (fun (sd2 : Int32) => [(j0, .inr (0, [.ref z0, .ref jp, .ref jc, .int cn, .int de, .int tr, .int se, .int hu, .int sd2]))])) (va_A [(j0, .inr (0, [.ref z0, .ref jp, .ref jc, .int cn, .int de, .int tr, .int se, .int hu, .int sd]))] hpz)) 0 0 (va_A [(j0, .inr (0, [.ref z0, .ref jp, .ref jc, .int cn, .int de, .int tr, .int se, .int hu, .int sd]))] hpz) := by
  refine Met.ofW (cc := cX0_draw) (maxL := 2) (ret := (some .int)) (by decide) rfl ?_
  intro p e s m args below meth c s₁ B hml hv
  obtain ⟨rfl, hsz, hP, hK, hD0, hN, hZ⟩ := hv
  have hx := B.exec
  have hb := B.bytes
  have hr := B.returns
  have hts := atoms_spec (ws := wsX0_draw) B.pre
  have hown : s.vm.findClass RX0 = some m.cls := findClass_of_methodNamed B.named
  have hlocks := B.notSynchronized
  subst hsz
  have hD := hD0.self (sz := s.heap.size)
  have hA := zA_of hD
  have hl := lv_entry ([.ref j0, .int 12]) (n := 2) (Nat.le_of_ble_eq_true rfl)
  rw [lg_entry_eq]
  generalize (lg_sl ([.ref j0, .int 12]) ++ List.replicate (2 - (lg_sl ([.ref j0, .int 12])).length) Slot.unset).toArray = ls at hl ⊢
  replace hl : lv_has ls 2 [(0, .ref j0), (1, .int 12)] := hl
  refine zw_begin hP hD (fun H locs hP1 hS => ?_)
  clear hP
  have hP := hP1
  clear hP1
  refine lv_aload_n hx hb dX0_draw_0 rfl (lv_at hl 0 rfl) ?_
  refine lv_aload_n hx hb dX0_draw_1 rfl (lv_at hl 0 rfl) ?_
  refine va_get (D := D) (ci := 0) (v := .int sd) (C := RX0) (T := TX0) (N := 9) hx hb hts hi_X0_draw_0 hown hK hP 0 rfl rfl 8 (by decide) (hts (.fieldLink RX0 44 "TheLiningsInIt$Jacket" "seedNow" "I") (List.mem_of_getElem? (i := 1) rfl)) (fun _ h9 => h9) rfl dX0_draw_2 ?_
  refine lv_ldc (own := RX0) (v := 1103515245) hx hb hown (hts _ (List.mem_of_getElem? (i := 2) rfl)) dX0_draw_5 ?_
  refine lv_imul hx hb dX0_draw_7 ?_
  refine lv_topi (fun x_1 ex_1 => ?_)
  refine lv_sipush (v := 12345) hx hb dX0_draw_8 (by decide) ?_
  refine lv_iadd hx hb dX0_draw_11 ?_
  refine lv_topi (fun x_2 ex_2 => ?_)
  refine va_put (D := D) (ci := 0) (v := .int x_2) (ty := .int) (C := RX0) (T := TX0) (N := 9) hx hb hts hi_X0_draw_0 tyX0 tyX0_ok nmX0 hown hK hP hD hS 0 rfl rfl 8 (by decide) (hts (.fieldLink RX0 44 "TheLiningsInIt$Jacket" "seedNow" "I") (List.mem_of_getElem? (i := 1) rfl)) (fun _ h9 => h9) rfl (by decide +kernel) rfl rfl (Nat.le_of_ble_eq_true rfl) dX0_draw_12 (fun H locs hP hD hS => ?_)
  have h9R := zRe (ws' := [(j0, .inr (0, [.ref z0, .ref jp, .ref jc, .int cn, .int de, .int tr, .int se, .int hu, .int x_2]))]) hP hD rfl
  clear hP hD
  obtain ⟨hP, hD⟩ := h9R
  refine lv_iload_n hx hb dX0_draw_15 rfl (lv_at hl 1 rfl) ?_
  refine lv_iconst (v := 1) hx hb dX0_draw_16 (by decide) ?_
  refine lv_icmp_ge (tgt := 24) hx hb dX0_draw_17 (by decide) (fun c_3 => ?_) (fun c_3 => ?_)
  · refine lv_aload_n hx hb dX0_draw_24 rfl (lv_at hl 0 rfl) ?_
    refine va_get (D := D) (ci := 0) (v := .int x_2) (C := RX0) (T := TX0) (N := 9) hx hb hts hi_X0_draw_0 hown hK hP 0 rfl rfl 8 (by decide) (hts (.fieldLink RX0 44 "TheLiningsInIt$Jacket" "seedNow" "I") (List.mem_of_getElem? (i := 1) rfl)) (fun _ h9 => h9) rfl dX0_draw_25 ?_
    refine lv_bipush (v := 16) hx hb dX0_draw_28 (by decide) ?_
    refine lv_iushr hx hb dX0_draw_30 rfl ?_
    refine lv_topi (fun x_4 ex_4 => ?_)
    have bx_4 : 0 ≤ x_4.toInt ∧ x_4.toInt ≤ 65535 := by rw [ex_4]; exact zf_ushr
    refine lv_iload_n hx hb dX0_draw_31 rfl (lv_at hl 1 rfl) ?_
    refine lv_irem hx hb dX0_draw_32 (by decide) ?_
    refine lv_topi (fun x_5 ex_5 => ?_)
    have qx_5 : x_5.toInt = x_4.toInt - x_4.toInt / 12 * 12 := by rw [ex_5]; exact zf_rem rfl (by decide) (by omega) (by omega)
    exact W.iret (v := x_5) hx hb hr (fun t ht hW => ⟨⟨x_5, x_2, rfl, ⟨by omega, by omega⟩, zRet ht hP hD [0] (by decide) rfl⟩, hS.F ht⟩) hS.2.2 dX0_draw_33
  · exact absurd c_3 (by decide)
theorem hi_X0_pullInTruth_0 : ∀ w ∈ u_ws RX0 TX0 9, w ∈ wsX0_pullInTruth := fun w h => (goodIn_r (u_ws RX0 TX0 9) [44, 45, 46, 47, 48, 49, 50, 51, 52] rfl (by decide +kernel) w h).1
theorem hi_X0_pullInTruth_2 : ∀ w ∈ u_ws RX2 TX2 3, w ∈ wsX0_pullInTruth := fun w h => (goodIn_r (u_ws RX2 TX2 3) [53, 54, 55] rfl (by decide +kernel) w h).1
set_option maxHeartbeats 4000000 in
set_option maxRecDepth 100000 in
theorem c_J_pullInTruth (l : Launch) (D : va_G) (cI cJ cZ cP cS : ClassId) (po : zPool) (j0 jp jc z0 zl zs : Nat) (cn de tr se hu sd : Int32) (u0 : Nat) (ki a_ ta : Int32) (hu_u0 : zPu po u0 ki a_ ta) (hr_u0 : zPr ki a_ ta) (hy2 : 0 ≤ cn.toInt) (hy3 : cn.toInt ≤ 8) (hy4 : 0 ≤ de.toInt) (hy5 : de.toInt ≤ 24) (hy6 : 0 ≤ hu.toInt) (hy7 : hu.toInt ≤ 9) (hpz : Nat) : Met l yX0_pullInTruth wsX0_pullInTruth ({ frames := 2, cells := 0, slots := 0, locals := 44 }) (va_Pc [.ref j0, .ref u0] (zW D (zKT cI cJ cZ cP cS) po [(j0, .inr (0, [.ref z0, .ref jp, .ref jc, .int cn, .int de, .int tr, .int se, .int hu, .int sd]))] hpz)) (va_Qv (fun (u : (Int32) × (Int32) × (Int32) × (Int32)) => (0 ≤ u.1.toInt ∧ u.1.toInt ≤ 24) ∧ (True)) (zB D [(j0, .inr (0, [.ref z0, .ref jp, .ref jc, .int cn, .int de, .int tr, .int se, .int hu, .int sd]))] hpz (fun (u : (Int32) × (Int32) × (Int32) × (Int32)) => [(j0, .inr (0, [.ref z0, .ref jp, .ref jc, .int cn, .int u.1, .int u.2.1, .int u.2.2.1, .int hu, .int u.2.2.2]))])) (va_A [(j0, .inr (0, [.ref z0, .ref jp, .ref jc, .int cn, .int de, .int tr, .int se, .int hu, .int sd]))] hpz)) 0 0 (va_A [(j0, .inr (0, [.ref z0, .ref jp, .ref jc, .int cn, .int de, .int tr, .int se, .int hu, .int sd]))] hpz) := by
  refine Met.ofW (cc := cX0_pullInTruth) (maxL := 3) (ret := none) (by decide) rfl ?_
  intro p e s m args below meth c s₁ B hml hv
  obtain ⟨rfl, hsz, hP, hK, hD0, hN, hZ⟩ := hv
  have hx := B.exec
  have hb := B.bytes
  have hr := B.returns
  have hts := atoms_spec (ws := wsX0_pullInTruth) B.pre
  have hown : s.vm.findClass RX0 = some m.cls := findClass_of_methodNamed B.named
  have hlocks := B.notSynchronized
  subst hsz
  have hD := hD0.self (sz := s.heap.size)
  have hA := zA_of hD
  have hl := lv_entry ([.ref j0, .ref u0]) (n := 3) (Nat.le_of_ble_eq_true rfl)
  rw [lg_entry_eq]
  generalize (lg_sl ([.ref j0, .ref u0]) ++ List.replicate (3 - (lg_sl ([.ref j0, .ref u0])).length) Slot.unset).toArray = ls at hl ⊢
  replace hl : lv_has ls 3 [(0, .ref j0), (1, .ref u0)] := hl
  refine zw_begin hP hD (fun H locs hP1 hS => ?_)
  clear hP
  have hP := hP1
  clear hP1
  obtain ⟨⟨p1_u0, p2_u0⟩, ⟨p3_u0, p4_u0⟩, p5_u0, p6_u0⟩ := id hr_u0
  refine lv_aload_n hx hb dX0_pullInTruth_0 rfl (lv_at hl 0 rfl) ?_
  refine lv_bipush (v := 12) hx hb dX0_pullInTruth_1 (by decide) ?_
  skip
  refine zw_V (As := [.int 12]) (rest := []) (wr := []) ⟨hx, hb, hml, hown, hts⟩ (c_J_draw_12 l D cI cJ cZ cP cS po j0 jp jc z0 0 0 (cn) (de) (tr) (se) (hu) (sd) hy2 hy3 hy4 hy5 hy6 hy7 H.size) (cwV 1 hts gX0_pullInTruth_X0_draw rfl rfl rfl (by decide +kernel) ⟨Nat.le_of_ble_eq_true rfl, Nat.le_of_ble_eq_true rfl⟩) hK hN (hZ.kept hS) hP hD hS hA [0] [] rfl rfl (by decide) (by decide) (by decide) (va_recv hK hP (ci := 0) (q0 := 0) rfl rfl) rfl hl.1 rfl (Nat.le_of_ble_eq_true rfl) dX0_pullInTruth_3 ⟨Nat.le_of_ble_eq_true rfl, Nat.le_of_ble_eq_true rfl⟩ (fun r_1 u_2 H locs hr_1 hP hD hS => ?_)
  obtain ⟨q_3, rfl⟩ : ∃ z, z = u_2 := ⟨_, rfl⟩
  have h9R := zRe (ws' := [(j0, .inr (0, [.ref z0, .ref jp, .ref jc, .int cn, .int de, .int tr, .int se, .int hu, .int q_3]))]) hP hD rfl
  clear hP hD
  obtain ⟨hP, hD⟩ := h9R
  obtain ⟨g_4, g_5⟩ := hr_1
  refine lv_aload_n hx hb dX0_pullInTruth_6 rfl (lv_at hl 1 rfl) ?_
  refine lv_aload_n hx hb dX0_pullInTruth_7 rfl (lv_at hl 0 rfl) ?_
  refine va_get (D := D) (ci := 0) (v := .int de) (C := RX0) (T := TX0) (N := 9) hx hb hts hi_X0_pullInTruth_0 hown hK hP 0 rfl rfl 4 (by decide) (hts (.fieldLink RX0 32 "TheLiningsInIt$Jacket" "depth" "I") (List.mem_of_getElem? (i := 1) rfl)) (fun _ h9 => h9) rfl dX0_pullInTruth_8 ?_
  refine lv_aload_n hx hb dX0_pullInTruth_11 rfl (lv_at hl 0 rfl) ?_
  refine va_get (D := D) (ci := 0) (v := .int hu) (C := RX0) (T := TX0) (N := 9) hx hb hts hi_X0_pullInTruth_0 hown hK hP 0 rfl rfl 7 (by decide) (hts (.fieldLink RX0 41 "TheLiningsInIt$Jacket" "hurry" "I") (List.mem_of_getElem? (i := 2) rfl)) (fun _ h9 => h9) rfl dX0_pullInTruth_12 ?_
  refine zc_V (As := [.int de, .int hu]) (rest := [.int r_1]) ⟨hx, hb, hml, hown, hts⟩ (c_Pull_waysAt l D cI cJ cZ cP cS po (de) (hu) u0 (ki) (a_) (ta) hu_u0 ⟨by omega, by omega, by omega, by omega⟩ hy4 hy5 hy6 hy7) (cwV 2 hts gX0_pullInTruth_X2_waysAt rfl rfl rfl (by decide +kernel) ⟨Nat.le_of_ble_eq_true rfl, Nat.le_of_ble_eq_true rfl⟩) hK hN (hZ.kept hS) hP zP_nil (va_recv hK (zPu_P (hZ.kept hS) hu_u0) (ci := 2) (q0 := 0) rfl rfl) rfl hl.1 rfl (Nat.le_of_ble_eq_true rfl) dX0_pullInTruth_15 ⟨Nat.le_of_ble_eq_true rfl, Nat.le_of_ble_eq_true rfl⟩ (fun r_6 hr_6 => ?_)
  obtain ⟨g_7, g_8⟩ := hr_6
  refine lv_icmp_ge (tgt := 25) hx hb dX0_pullInTruth_18 (by decide) (fun c_9 => ?_) (fun c_9 => ?_)
  · have fc_9 : r_6.toInt ≤ r_1.toInt := zf_le c_9 rfl rfl
    refine lv_iconst (v := 0) hx hb dX0_pullInTruth_25 (by decide) ?_
    refine lv_istore_n (lv' := [(2, .int 0), (0, .ref j0), (1, .ref u0)]) hx hb dX0_pullInTruth_26 rfl hl (by decide) rfl (fun ls hl => ?_)
    refine lv_aload_n hx hb dX0_pullInTruth_27 rfl (lv_at hl 1 rfl) ?_
    refine lv_iload_n hx hb dX0_pullInTruth_28 rfl (lv_at hl 0 rfl) ?_
    refine lv_if_eq (tgt := 43) hx hb dX0_pullInTruth_29 (by decide) (fun c_10 => ?_) (fun c_10 => ?_)
    · refine lv_aload_n hx hb dX0_pullInTruth_43 rfl (lv_at hl 2 rfl) ?_
      refine lv_aload_n hx hb dX0_pullInTruth_44 rfl (lv_at hl 1 rfl) ?_
      refine va_get (D := D) (ci := 0) (v := .int de) (C := RX0) (T := TX0) (N := 9) hx hb hts hi_X0_pullInTruth_0 hown hK hP 0 rfl rfl 4 (by decide) (hts (.fieldLink RX0 32 "TheLiningsInIt$Jacket" "depth" "I") (List.mem_of_getElem? (i := 1) rfl)) (fun _ h9 => h9) rfl dX0_pullInTruth_45 ?_
      refine lv_aload_n hx hb dX0_pullInTruth_48 rfl (lv_at hl 1 rfl) ?_
      refine va_get (D := D) (ci := 0) (v := .int hu) (C := RX0) (T := TX0) (N := 9) hx hb hts hi_X0_pullInTruth_0 hown hK hP 0 rfl rfl 7 (by decide) (hts (.fieldLink RX0 41 "TheLiningsInIt$Jacket" "hurry" "I") (List.mem_of_getElem? (i := 2) rfl)) (fun _ h9 => h9) rfl dX0_pullInTruth_49 ?_
      refine zc_V (As := [.int de, .int hu]) (rest := [.ref j0]) ⟨hx, hb, hml, hown, hts⟩ (c_Pull_deeper l D cI cJ cZ cP cS po (de) (hu) u0 (ki) (a_) (ta) hu_u0 ⟨by omega, by omega, by omega, by omega⟩ hy4 hy5 hy6 hy7) (cwV 2 hts gX0_pullInTruth_X2_deeper rfl rfl rfl (by decide +kernel) ⟨Nat.le_of_ble_eq_true rfl, Nat.le_of_ble_eq_true rfl⟩) hK hN (hZ.kept hS) hP zP_nil (va_recv hK (zPu_P (hZ.kept hS) hu_u0) (ci := 2) (q0 := 0) rfl rfl) rfl hl.1 rfl (Nat.le_of_ble_eq_true rfl) dX0_pullInTruth_52 ⟨Nat.le_of_ble_eq_true rfl, Nat.le_of_ble_eq_true rfl⟩ (fun r_11 hr_11 => ?_)
      obtain ⟨g_12, g_13⟩ := hr_11
      refine va_put (D := D) (ci := 0) (v := .int r_11) (ty := .int) (C := RX0) (T := TX0) (N := 9) hx hb hts hi_X0_pullInTruth_0 tyX0 tyX0_ok nmX0 hown hK hP hD hS 0 rfl rfl 4 (by decide) (hts (.fieldLink RX0 32 "TheLiningsInIt$Jacket" "depth" "I") (List.mem_of_getElem? (i := 1) rfl)) (fun _ h9 => h9) rfl (by decide +kernel) rfl rfl (Nat.le_of_ble_eq_true rfl) dX0_pullInTruth_55 (fun H locs hP hD hS => ?_)
      have h9R := zRe (ws' := [(j0, .inr (0, [.ref z0, .ref jp, .ref jc, .int cn, .int r_11, .int tr, .int se, .int hu, .int q_3]))]) hP hD rfl
      clear hP hD
      obtain ⟨hP, hD⟩ := h9R
      refine lv_aload_n hx hb dX0_pullInTruth_58 rfl (lv_at hl 1 rfl) ?_
      refine lv_dup hx hb dX0_pullInTruth_59 rfl ?_
      refine va_get (D := D) (ci := 0) (v := .int se) (C := RX0) (T := TX0) (N := 9) hx hb hts hi_X0_pullInTruth_0 hown hK hP 0 rfl rfl 6 (by decide) (hts (.fieldLink RX0 38 "TheLiningsInIt$Jacket" "seconds" "I") (List.mem_of_getElem? (i := 3) rfl)) (fun _ h9 => h9) rfl dX0_pullInTruth_60 ?_
      refine lv_aload_n hx hb dX0_pullInTruth_63 rfl (lv_at hl 2 rfl) ?_
      refine va_get (D := D) (ci := 2) (v := .int ta) (C := RX2) (T := TX2) (N := 3) hx hb hts hi_X0_pullInTruth_2 hown hK (zPu_P (hZ.kept hS) hu_u0) 0 rfl rfl 2 (by decide) (hts (.fieldLink RX0 99 "TheLiningsInIt$Pull" "takes" "I") (List.mem_of_getElem? (i := 4) rfl)) (fun _ h9 => h9) rfl dX0_pullInTruth_64 ?_
      refine lv_isub hx hb dX0_pullInTruth_67 ?_
      refine lv_topi (fun x_14 ex_14 => ?_)
      refine va_put (D := D) (ci := 0) (v := .int x_14) (ty := .int) (C := RX0) (T := TX0) (N := 9) hx hb hts hi_X0_pullInTruth_0 tyX0 tyX0_ok nmX0 hown hK hP hD hS 0 rfl rfl 6 (by decide) (hts (.fieldLink RX0 38 "TheLiningsInIt$Jacket" "seconds" "I") (List.mem_of_getElem? (i := 3) rfl)) (fun _ h9 => h9) rfl (by decide +kernel) rfl rfl (Nat.le_of_ble_eq_true rfl) dX0_pullInTruth_68 (fun H locs hP hD hS => ?_)
      have h9R := zRe (ws' := [(j0, .inr (0, [.ref z0, .ref jp, .ref jc, .int cn, .int r_11, .int tr, .int x_14, .int hu, .int q_3]))]) hP hD rfl
      clear hP hD
      obtain ⟨hP, hD⟩ := h9R
      refine lv_aload_n hx hb dX0_pullInTruth_71 rfl (lv_at hl 2 rfl) ?_
      refine va_get (D := D) (ci := 2) (v := .int ki) (C := RX2) (T := TX2) (N := 3) hx hb hts hi_X0_pullInTruth_2 hown hK (zPu_P (hZ.kept hS) hu_u0) 0 rfl rfl 0 (by decide) (hts (.fieldLink RX0 102 "TheLiningsInIt$Pull" "kind" "I") (List.mem_of_getElem? (i := 5) rfl)) (fun _ h9 => h9) rfl dX0_pullInTruth_72 ?_
      refine lv_iconst (v := 5) hx hb dX0_pullInTruth_75 (by decide) ?_
      refine lv_icmp_ne (tgt := 89) hx hb dX0_pullInTruth_76 (by decide) (fun c_15 => ?_) (fun c_15 => ?_)
      · have fc_15 : ki.toInt ≠ 5 := zf_ne c_15 rfl (by decide)
        exact W.vret hx hb hr (fun t ht hW => ⟨⟨(r_11, tr, x_14, q_3), rfl, ⟨(show 0 ≤ r_11.toInt ∧ r_11.toInt ≤ 24 from ⟨by omega, by omega⟩), trivial⟩, zRet ht hP hD [0] (by decide) rfl⟩, hS.F ht⟩) hS.2.2 dX0_pullInTruth_89
      · have fc_15 : ki.toInt = 5 := zf_eq c_15 rfl (by decide)
        refine lv_aload_n hx hb dX0_pullInTruth_79 rfl (lv_at hl 1 rfl) ?_
        refine lv_dup hx hb dX0_pullInTruth_80 rfl ?_
        refine va_get (D := D) (ci := 0) (v := .int tr) (C := RX0) (T := TX0) (N := 9) hx hb hts hi_X0_pullInTruth_0 hown hK hP 0 rfl rfl 5 (by decide) (hts (.fieldLink RX0 35 "TheLiningsInIt$Jacket" "torn" "I") (List.mem_of_getElem? (i := 6) rfl)) (fun _ h9 => h9) rfl dX0_pullInTruth_81 ?_
        refine lv_iconst (v := 1) hx hb dX0_pullInTruth_84 (by decide) ?_
        refine lv_iadd hx hb dX0_pullInTruth_85 ?_
        refine lv_topi (fun x_16 ex_16 => ?_)
        refine va_put (D := D) (ci := 0) (v := .int x_16) (ty := .int) (C := RX0) (T := TX0) (N := 9) hx hb hts hi_X0_pullInTruth_0 tyX0 tyX0_ok nmX0 hown hK hP hD hS 0 rfl rfl 5 (by decide) (hts (.fieldLink RX0 35 "TheLiningsInIt$Jacket" "torn" "I") (List.mem_of_getElem? (i := 6) rfl)) (fun _ h9 => h9) rfl (by decide +kernel) rfl rfl (Nat.le_of_ble_eq_true rfl) dX0_pullInTruth_86 (fun H locs hP hD hS => ?_)
        have h9R := zRe (ws' := [(j0, .inr (0, [.ref z0, .ref jp, .ref jc, .int cn, .int r_11, .int x_16, .int x_14, .int hu, .int q_3]))]) hP hD rfl
        clear hP hD
        obtain ⟨hP, hD⟩ := h9R
        exact W.vret hx hb hr (fun t ht hW => ⟨⟨(r_11, x_16, x_14, q_3), rfl, ⟨(show 0 ≤ r_11.toInt ∧ r_11.toInt ≤ 24 from ⟨by omega, by omega⟩), trivial⟩, zRet ht hP hD [0] (by decide) rfl⟩, hS.F ht⟩) hS.2.2 dX0_pullInTruth_89
    · exact absurd c_10 (by decide)
  · have fc_9 : r_1.toInt < r_6.toInt := zf_nle c_9 rfl rfl
    refine lv_iconst (v := 1) hx hb dX0_pullInTruth_21 (by decide) ?_
    refine lv_goto (tgt := 26) hx hb dX0_pullInTruth_22 (by decide) ?_
    refine lv_istore_n (lv' := [(2, .int 1), (0, .ref j0), (1, .ref u0)]) hx hb dX0_pullInTruth_26 rfl hl (by decide) rfl (fun ls hl => ?_)
    refine lv_aload_n hx hb dX0_pullInTruth_27 rfl (lv_at hl 1 rfl) ?_
    refine lv_iload_n hx hb dX0_pullInTruth_28 rfl (lv_at hl 0 rfl) ?_
    refine lv_if_eq (tgt := 43) hx hb dX0_pullInTruth_29 (by decide) (fun c_17 => ?_) (fun c_17 => ?_)
    · exact absurd c_17 (by decide)
    · refine lv_aload_n hx hb dX0_pullInTruth_32 rfl (lv_at hl 2 rfl) ?_
      refine lv_aload_n hx hb dX0_pullInTruth_33 rfl (lv_at hl 1 rfl) ?_
      refine va_get (D := D) (ci := 0) (v := .int de) (C := RX0) (T := TX0) (N := 9) hx hb hts hi_X0_pullInTruth_0 hown hK hP 0 rfl rfl 4 (by decide) (hts (.fieldLink RX0 32 "TheLiningsInIt$Jacket" "depth" "I") (List.mem_of_getElem? (i := 1) rfl)) (fun _ h9 => h9) rfl dX0_pullInTruth_34 ?_
      refine zc_V (As := [.int de]) (rest := [.ref j0]) ⟨hx, hb, hml, hown, hts⟩ (c_Pull_shallower l D cI cJ cZ cP cS po (de) u0 (ki) (a_) (ta) hu_u0 ⟨by omega, by omega, by omega, by omega⟩ hy4 hy5) (cwV 1 hts gX0_pullInTruth_X2_shallower rfl rfl rfl (by decide +kernel) ⟨Nat.le_of_ble_eq_true rfl, Nat.le_of_ble_eq_true rfl⟩) hK hN (hZ.kept hS) hP zP_nil (va_recv hK (zPu_P (hZ.kept hS) hu_u0) (ci := 2) (q0 := 0) rfl rfl) rfl hl.1 rfl (Nat.le_of_ble_eq_true rfl) dX0_pullInTruth_37 ⟨Nat.le_of_ble_eq_true rfl, Nat.le_of_ble_eq_true rfl⟩ (fun r_18 hr_18 => ?_)
      obtain ⟨g_19, g_20⟩ := hr_18
      refine lv_goto (tgt := 55) hx hb dX0_pullInTruth_40 (by decide) ?_
      refine va_put (D := D) (ci := 0) (v := .int r_18) (ty := .int) (C := RX0) (T := TX0) (N := 9) hx hb hts hi_X0_pullInTruth_0 tyX0 tyX0_ok nmX0 hown hK hP hD hS 0 rfl rfl 4 (by decide) (hts (.fieldLink RX0 32 "TheLiningsInIt$Jacket" "depth" "I") (List.mem_of_getElem? (i := 1) rfl)) (fun _ h9 => h9) rfl (by decide +kernel) rfl rfl (Nat.le_of_ble_eq_true rfl) dX0_pullInTruth_55 (fun H locs hP hD hS => ?_)
      have h9R := zRe (ws' := [(j0, .inr (0, [.ref z0, .ref jp, .ref jc, .int cn, .int r_18, .int tr, .int se, .int hu, .int q_3]))]) hP hD rfl
      clear hP hD
      obtain ⟨hP, hD⟩ := h9R
      refine lv_aload_n hx hb dX0_pullInTruth_58 rfl (lv_at hl 1 rfl) ?_
      refine lv_dup hx hb dX0_pullInTruth_59 rfl ?_
      refine va_get (D := D) (ci := 0) (v := .int se) (C := RX0) (T := TX0) (N := 9) hx hb hts hi_X0_pullInTruth_0 hown hK hP 0 rfl rfl 6 (by decide) (hts (.fieldLink RX0 38 "TheLiningsInIt$Jacket" "seconds" "I") (List.mem_of_getElem? (i := 3) rfl)) (fun _ h9 => h9) rfl dX0_pullInTruth_60 ?_
      refine lv_aload_n hx hb dX0_pullInTruth_63 rfl (lv_at hl 2 rfl) ?_
      refine va_get (D := D) (ci := 2) (v := .int ta) (C := RX2) (T := TX2) (N := 3) hx hb hts hi_X0_pullInTruth_2 hown hK (zPu_P (hZ.kept hS) hu_u0) 0 rfl rfl 2 (by decide) (hts (.fieldLink RX0 99 "TheLiningsInIt$Pull" "takes" "I") (List.mem_of_getElem? (i := 4) rfl)) (fun _ h9 => h9) rfl dX0_pullInTruth_64 ?_
      refine lv_isub hx hb dX0_pullInTruth_67 ?_
      refine lv_topi (fun x_21 ex_21 => ?_)
      refine va_put (D := D) (ci := 0) (v := .int x_21) (ty := .int) (C := RX0) (T := TX0) (N := 9) hx hb hts hi_X0_pullInTruth_0 tyX0 tyX0_ok nmX0 hown hK hP hD hS 0 rfl rfl 6 (by decide) (hts (.fieldLink RX0 38 "TheLiningsInIt$Jacket" "seconds" "I") (List.mem_of_getElem? (i := 3) rfl)) (fun _ h9 => h9) rfl (by decide +kernel) rfl rfl (Nat.le_of_ble_eq_true rfl) dX0_pullInTruth_68 (fun H locs hP hD hS => ?_)
      have h9R := zRe (ws' := [(j0, .inr (0, [.ref z0, .ref jp, .ref jc, .int cn, .int r_18, .int tr, .int x_21, .int hu, .int q_3]))]) hP hD rfl
      clear hP hD
      obtain ⟨hP, hD⟩ := h9R
      refine lv_aload_n hx hb dX0_pullInTruth_71 rfl (lv_at hl 2 rfl) ?_
      refine va_get (D := D) (ci := 2) (v := .int ki) (C := RX2) (T := TX2) (N := 3) hx hb hts hi_X0_pullInTruth_2 hown hK (zPu_P (hZ.kept hS) hu_u0) 0 rfl rfl 0 (by decide) (hts (.fieldLink RX0 102 "TheLiningsInIt$Pull" "kind" "I") (List.mem_of_getElem? (i := 5) rfl)) (fun _ h9 => h9) rfl dX0_pullInTruth_72 ?_
      refine lv_iconst (v := 5) hx hb dX0_pullInTruth_75 (by decide) ?_
      refine lv_icmp_ne (tgt := 89) hx hb dX0_pullInTruth_76 (by decide) (fun c_22 => ?_) (fun c_22 => ?_)
      · have fc_22 : ki.toInt ≠ 5 := zf_ne c_22 rfl (by decide)
        exact W.vret hx hb hr (fun t ht hW => ⟨⟨(r_18, tr, x_21, q_3), rfl, ⟨(show 0 ≤ r_18.toInt ∧ r_18.toInt ≤ 24 from ⟨by omega, by omega⟩), trivial⟩, zRet ht hP hD [0] (by decide) rfl⟩, hS.F ht⟩) hS.2.2 dX0_pullInTruth_89
      · have fc_22 : ki.toInt = 5 := zf_eq c_22 rfl (by decide)
        refine lv_aload_n hx hb dX0_pullInTruth_79 rfl (lv_at hl 1 rfl) ?_
        refine lv_dup hx hb dX0_pullInTruth_80 rfl ?_
        refine va_get (D := D) (ci := 0) (v := .int tr) (C := RX0) (T := TX0) (N := 9) hx hb hts hi_X0_pullInTruth_0 hown hK hP 0 rfl rfl 5 (by decide) (hts (.fieldLink RX0 35 "TheLiningsInIt$Jacket" "torn" "I") (List.mem_of_getElem? (i := 6) rfl)) (fun _ h9 => h9) rfl dX0_pullInTruth_81 ?_
        refine lv_iconst (v := 1) hx hb dX0_pullInTruth_84 (by decide) ?_
        refine lv_iadd hx hb dX0_pullInTruth_85 ?_
        refine lv_topi (fun x_23 ex_23 => ?_)
        refine va_put (D := D) (ci := 0) (v := .int x_23) (ty := .int) (C := RX0) (T := TX0) (N := 9) hx hb hts hi_X0_pullInTruth_0 tyX0 tyX0_ok nmX0 hown hK hP hD hS 0 rfl rfl 5 (by decide) (hts (.fieldLink RX0 35 "TheLiningsInIt$Jacket" "torn" "I") (List.mem_of_getElem? (i := 6) rfl)) (fun _ h9 => h9) rfl (by decide +kernel) rfl rfl (Nat.le_of_ble_eq_true rfl) dX0_pullInTruth_86 (fun H locs hP hD hS => ?_)
        have h9R := zRe (ws' := [(j0, .inr (0, [.ref z0, .ref jp, .ref jc, .int cn, .int r_18, .int x_23, .int x_21, .int hu, .int q_3]))]) hP hD rfl
        clear hP hD
        obtain ⟨hP, hD⟩ := h9R
        exact W.vret hx hb hr (fun t ht hW => ⟨⟨(r_18, x_23, x_21, q_3), rfl, ⟨(show 0 ≤ r_18.toInt ∧ r_18.toInt ≤ 24 from ⟨by omega, by omega⟩), trivial⟩, zRet ht hP hD [0] (by decide) rfl⟩, hS.F ht⟩) hS.2.2 dX0_pullInTruth_89
theorem hi_X0_closeInTruth_0 : ∀ w ∈ u_ws RX0 TX0 9, w ∈ wsX0_closeInTruth := fun w h => (goodIn_r (u_ws RX0 TX0 9) [35, 36, 37, 38, 39, 40, 41, 42, 43] rfl (by decide +kernel) w h).1
theorem hi_X0_closeInTruth_6 : ∀ w ∈ u_ws RX6 TX6 5, w ∈ wsX0_closeInTruth := fun w h => (goodIn_r (u_ws RX6 TX6 5) [44, 45, 46, 47, 48] rfl (by decide +kernel) w h).1
set_option maxHeartbeats 4000000 in
set_option maxRecDepth 100000 in
theorem c_J_closeInTruth (l : Launch) (D : va_G) (cI cJ cZ cP cS : ClassId) (po : zPool) (j0 jp jc z0 zl zs : Nat) (cn de tr se hu sd : Int32) (sz at_ gp : Int32) (fl fs : Nat → Int32) (hy0 : 0 ≤ cn.toInt) (hy1 : cn.toInt ≤ 8) (hy2 : 0 ≤ de.toInt) (hy3 : de.toInt ≤ 24) (hy4 : 0 ≤ hu.toInt) (hy5 : hu.toInt ≤ 9) (hy6 : 4 ≤ sz.toInt) (hy7 : sz.toInt ≤ 40) (hy8 : 0 ≤ at_.toInt) (hy9 : at_.toInt ≤ 40) (hy10 : 1 ≤ gp.toInt) (hy11 : gp.toInt ≤ 9) (hp_fl : zRg fl (0) 1) (hp_fs : zRg fs (0) 9) (hpz : Nat) : Met l yX0_closeInTruth wsX0_closeInTruth ({ frames := 3, cells := 0, slots := 0, locals := 63 }) (va_Pc [.ref j0] (zW D (zKT cI cJ cZ cP cS) po [(j0, .inr (0, [.ref z0, .ref jp, .ref jc, .int cn, .int de, .int tr, .int se, .int hu, .int sd])), (z0, .inr (6, [.ref zl, .ref zs, .int sz, .int at_, .int gp])), (zl, .inl (cZ, 40, .inl fl)), (zs, .inl (cI, 40, .inl fs))] hpz)) (va_Qv (fun (u : (Int32) × (Int32) × (Int32)) => (0 ≤ u.1.toInt ∧ u.1.toInt ≤ 24) ∧ (0 ≤ u.2.2.toInt ∧ u.2.2.toInt ≤ 40) ∧ (True)) (zB D [(j0, .inr (0, [.ref z0, .ref jp, .ref jc, .int cn, .int de, .int tr, .int se, .int hu, .int sd])), (z0, .inr (6, [.ref zl, .ref zs, .int sz, .int at_, .int gp])), (zl, .inl (cZ, 40, .inl fl)), (zs, .inl (cI, 40, .inl fs))] hpz (fun (u : (Int32) × (Int32) × (Int32)) => [(j0, .inr (0, [.ref z0, .ref jp, .ref jc, .int cn, .int u.1, .int tr, .int se, .int hu, .int u.2.1])), (z0, .inr (6, [.ref zl, .ref zs, .int sz, .int u.2.2, .int gp])), (zl, .inl (cZ, 40, .inl fl)), (zs, .inl (cI, 40, .inl fs))])) (va_A [(j0, .inr (0, [.ref z0, .ref jp, .ref jc, .int cn, .int de, .int tr, .int se, .int hu, .int sd])), (z0, .inr (6, [.ref zl, .ref zs, .int sz, .int at_, .int gp])), (zl, .inl (cZ, 40, .inl fl)), (zs, .inl (cI, 40, .inl fs))] hpz)) 0 0 (va_A [(j0, .inr (0, [.ref z0, .ref jp, .ref jc, .int cn, .int de, .int tr, .int se, .int hu, .int sd])), (z0, .inr (6, [.ref zl, .ref zs, .int sz, .int at_, .int gp])), (zl, .inl (cZ, 40, .inl fl)), (zs, .inl (cI, 40, .inl fs))] hpz) := by
  refine Met.ofW (cc := cX0_closeInTruth) (maxL := 2) (ret := none) (by decide) rfl ?_
  intro p e s m args below meth c s₁ B hml hv
  obtain ⟨rfl, hsz, hP, hK, hD0, hN, hZ⟩ := hv
  have hx := B.exec
  have hb := B.bytes
  have hr := B.returns
  have hts := atoms_spec (ws := wsX0_closeInTruth) B.pre
  have hown : s.vm.findClass RX0 = some m.cls := findClass_of_methodNamed B.named
  have hlocks := B.notSynchronized
  subst hsz
  have hD := hD0.self (sz := s.heap.size)
  have hA := zA_of hD
  have hl := lv_entry ([.ref j0]) (n := 2) (Nat.le_of_ble_eq_true rfl)
  rw [lg_entry_eq]
  generalize (lg_sl ([.ref j0]) ++ List.replicate (2 - (lg_sl ([.ref j0])).length) Slot.unset).toArray = ls at hl ⊢
  replace hl : lv_has ls 2 [(0, .ref j0)] := hl
  refine zw_begin hP hD (fun H locs hP1 hS => ?_)
  clear hP
  have hP := hP1
  clear hP1
  refine lv_aload_n hx hb dX0_closeInTruth_0 rfl (lv_at hl 0 rfl) ?_
  refine va_get (D := D) (ci := 0) (v := .ref z0) (C := RX0) (T := TX0) (N := 9) hx hb hts hi_X0_closeInTruth_0 hown hK hP 0 rfl rfl 0 (by decide) (hts (.fieldLink RX0 12 "TheLiningsInIt$Jacket" "zip" "LTheLiningsInIt$Zip;") (List.mem_of_getElem? (i := 1) rfl)) (fun _ h9 => h9) rfl dX0_closeInTruth_1 ?_
  refine va_get (D := D) (ci := 6) (v := .int at_) (C := RX6) (T := TX6) (N := 5) hx hb hts hi_X0_closeInTruth_6 hown hK hP 1 rfl rfl 3 (by decide) (hts (.fieldLink RX0 63 "TheLiningsInIt$Zip" "at" "I") (List.mem_of_getElem? (i := 2) rfl)) (fun _ h9 => h9) rfl dX0_closeInTruth_4 ?_
  refine lv_istore_n (lv' := [(1, .int at_), (0, .ref j0)]) hx hb dX0_closeInTruth_7 rfl hl (by decide) rfl (fun ls hl => ?_)
  obtain ⟨i_8, hi_8⟩ : ∃ i : Int32, i = at_ := ⟨_, rfl⟩
  replace hl : lv_has ls 2 [(1, .int i_8), (0, .ref j0)] := by rw [hi_8]; exact lv_sub hl [0, 1] rfl
  have h1i_8 : i_8.toInt = at_.toInt := by rw [hi_8]
  obtain ⟨nfu, hni_8⟩ : ∃ nq9 : Nat, sz.toInt ≤ i_8.toInt + (nq9 : Int) := ⟨((sz.toInt : Int) - at_.toInt).toNat, by omega⟩
  have hloi_8 : 0 ≤ i_8.toInt := by omega
  obtain ⟨v_1, hv_1⟩ : ∃ g : Int32, g = at_ := ⟨_, rfl⟩
  have hbv_1 : 0 ≤ v_1.toInt ∧ v_1.toInt ≤ 40 := by rw [hv_1]; exact ⟨by omega, by omega⟩
  obtain ⟨v_2, hv_2⟩ : ∃ g : Int32, g = sd := ⟨_, rfl⟩
  replace hP : va_P D vwCl [(j0, .inr (0, [.ref z0, .ref jp, .ref jc, .int cn, .int de, .int tr, .int se, .int hu, .int v_2])), (z0, .inr (6, [.ref zl, .ref zs, .int sz, .int v_1, .int gp])), (zl, .inl (cZ, 40, .inl fl)), (zs, .inl (cI, 40, .inl fs))] H := by rw [hv_1, hv_2]; exact hP
  replace hD : va_D (va_A [(j0, .inr (0, [.ref z0, .ref jp, .ref jc, .int cn, .int de, .int tr, .int se, .int hu, .int sd])), (z0, .inr (6, [.ref zl, .ref zs, .int sz, .int at_, .int gp])), (zl, .inl (cZ, 40, .inl fl)), (zs, .inl (cI, 40, .inl fs))] s.heap.size) [(j0, .inr (0, [.ref z0, .ref jp, .ref jc, .int cn, .int de, .int tr, .int se, .int hu, .int v_2])), (z0, .inr (6, [.ref zl, .ref zs, .int sz, .int v_1, .int gp])), (zl, .inl (cZ, 40, .inl fl)), (zs, .inl (cI, 40, .inl fs))] := by rw [hv_1, hv_2]; exact hD
  clear h1i_8 hi_8 hv_1 hv_2
  skip
  revert hni_8
  revert hloi_8
  revert hbv_1
  revert hl
  revert hS
  revert hD
  revert hP
  revert ls
  revert locs
  revert H
  revert v_1
  revert v_2
  revert i_8
  induction nfu with
  | zero =>
    intro i_8 v_2 v_1 H locs ls hP hD hS hl hbv_1 hloi_8 hni_8
    have hzi_8 : sz.toInt ≤ i_8.toInt := by omega
    refine lv_iload_n hx hb dX0_closeInTruth_8 rfl (lv_at hl 0 rfl) ?_
    refine lv_aload_n hx hb dX0_closeInTruth_9 rfl (lv_at hl 1 rfl) ?_
    refine va_get (D := D) (ci := 0) (v := .ref z0) (C := RX0) (T := TX0) (N := 9) hx hb hts hi_X0_closeInTruth_0 hown hK hP 0 rfl rfl 0 (by decide) (hts (.fieldLink RX0 12 "TheLiningsInIt$Jacket" "zip" "LTheLiningsInIt$Zip;") (List.mem_of_getElem? (i := 1) rfl)) (fun _ h9 => h9) rfl dX0_closeInTruth_10 ?_
    refine va_get (D := D) (ci := 6) (v := .int sz) (C := RX6) (T := TX6) (N := 5) hx hb hts hi_X0_closeInTruth_6 hown hK hP 1 rfl rfl 2 (by decide) (hts (.fieldLink RX0 57 "TheLiningsInIt$Zip" "size" "I") (List.mem_of_getElem? (i := 3) rfl)) (fun _ h9 => h9) rfl dX0_closeInTruth_13 ?_
    refine lv_icmp_ge (tgt := 97) hx hb dX0_closeInTruth_16 (by decide) (fun c_3 => ?_) (fun c_3 => ?_)
    · have fc_3 : sz.toInt ≤ i_8.toInt := zf_le c_3 rfl rfl
      refine lv_aload_n hx hb dX0_closeInTruth_97 rfl (lv_at hl 1 rfl) ?_
      refine va_get (D := D) (ci := 0) (v := .ref z0) (C := RX0) (T := TX0) (N := 9) hx hb hts hi_X0_closeInTruth_0 hown hK hP 0 rfl rfl 0 (by decide) (hts (.fieldLink RX0 12 "TheLiningsInIt$Jacket" "zip" "LTheLiningsInIt$Zip;") (List.mem_of_getElem? (i := 1) rfl)) (fun _ h9 => h9) rfl dX0_closeInTruth_98 ?_
      refine lv_aload_n hx hb dX0_closeInTruth_101 rfl (lv_at hl 1 rfl) ?_
      refine va_get (D := D) (ci := 0) (v := .ref z0) (C := RX0) (T := TX0) (N := 9) hx hb hts hi_X0_closeInTruth_0 hown hK hP 0 rfl rfl 0 (by decide) (hts (.fieldLink RX0 12 "TheLiningsInIt$Jacket" "zip" "LTheLiningsInIt$Zip;") (List.mem_of_getElem? (i := 1) rfl)) (fun _ h9 => h9) rfl dX0_closeInTruth_102 ?_
      refine va_get (D := D) (ci := 6) (v := .int sz) (C := RX6) (T := TX6) (N := 5) hx hb hts hi_X0_closeInTruth_6 hown hK hP 1 rfl rfl 2 (by decide) (hts (.fieldLink RX0 57 "TheLiningsInIt$Zip" "size" "I") (List.mem_of_getElem? (i := 3) rfl)) (fun _ h9 => h9) rfl dX0_closeInTruth_105 ?_
      refine va_put (D := D) (ci := 6) (v := .int sz) (ty := .int) (C := RX6) (T := TX6) (N := 5) hx hb hts hi_X0_closeInTruth_6 tyX6 tyX6_ok nmX6 hown hK hP hD hS 1 rfl rfl 3 (by decide) (hts (.fieldLink RX0 63 "TheLiningsInIt$Zip" "at" "I") (List.mem_of_getElem? (i := 2) rfl)) (fun _ h9 => h9) rfl (by decide +kernel) rfl rfl (Nat.le_of_ble_eq_true rfl) dX0_closeInTruth_108 (fun H locs hP hD hS => ?_)
      have h9R := zRe (ws' := [(j0, .inr (0, [.ref z0, .ref jp, .ref jc, .int cn, .int de, .int tr, .int se, .int hu, .int v_2])), (z0, .inr (6, [.ref zl, .ref zs, .int sz, .int sz, .int gp])), (zl, .inl (cZ, 40, .inl fl)), (zs, .inl (cI, 40, .inl fs))]) hP hD rfl
      clear hP hD
      obtain ⟨hP, hD⟩ := h9R
      exact W.vret hx hb hr (fun t ht hW => ⟨⟨(de, v_2, sz), rfl, ⟨(show 0 ≤ de.toInt ∧ de.toInt ≤ 24 from ⟨hy2, hy3⟩), (show 0 ≤ sz.toInt ∧ sz.toInt ≤ 40 from ⟨by omega, hy7⟩), trivial⟩, zRet ht hP hD [0, 1, 2, 3] (by decide) rfl⟩, hS.F ht⟩) hS.2.2 dX0_closeInTruth_111
    · exfalso; have fc_3 : i_8.toInt < sz.toInt := zf_nle c_3 rfl rfl; omega
  | succ nfu ih =>
    intro i_8 v_2 v_1 H locs ls hP hD hS hl hbv_1 hloi_8 hni_8
    refine lv_iload_n hx hb dX0_closeInTruth_8 rfl (lv_at hl 0 rfl) ?_
    refine lv_aload_n hx hb dX0_closeInTruth_9 rfl (lv_at hl 1 rfl) ?_
    refine va_get (D := D) (ci := 0) (v := .ref z0) (C := RX0) (T := TX0) (N := 9) hx hb hts hi_X0_closeInTruth_0 hown hK hP 0 rfl rfl 0 (by decide) (hts (.fieldLink RX0 12 "TheLiningsInIt$Jacket" "zip" "LTheLiningsInIt$Zip;") (List.mem_of_getElem? (i := 1) rfl)) (fun _ h9 => h9) rfl dX0_closeInTruth_10 ?_
    refine va_get (D := D) (ci := 6) (v := .int sz) (C := RX6) (T := TX6) (N := 5) hx hb hts hi_X0_closeInTruth_6 hown hK hP 1 rfl rfl 2 (by decide) (hts (.fieldLink RX0 57 "TheLiningsInIt$Zip" "size" "I") (List.mem_of_getElem? (i := 3) rfl)) (fun _ h9 => h9) rfl dX0_closeInTruth_13 ?_
    refine lv_icmp_ge (tgt := 97) hx hb dX0_closeInTruth_16 (by decide) (fun c_4 => ?_) (fun c_4 => ?_)
    · have fc_4 : sz.toInt ≤ i_8.toInt := zf_le c_4 rfl rfl
      refine lv_aload_n hx hb dX0_closeInTruth_97 rfl (lv_at hl 1 rfl) ?_
      refine va_get (D := D) (ci := 0) (v := .ref z0) (C := RX0) (T := TX0) (N := 9) hx hb hts hi_X0_closeInTruth_0 hown hK hP 0 rfl rfl 0 (by decide) (hts (.fieldLink RX0 12 "TheLiningsInIt$Jacket" "zip" "LTheLiningsInIt$Zip;") (List.mem_of_getElem? (i := 1) rfl)) (fun _ h9 => h9) rfl dX0_closeInTruth_98 ?_
      refine lv_aload_n hx hb dX0_closeInTruth_101 rfl (lv_at hl 1 rfl) ?_
      refine va_get (D := D) (ci := 0) (v := .ref z0) (C := RX0) (T := TX0) (N := 9) hx hb hts hi_X0_closeInTruth_0 hown hK hP 0 rfl rfl 0 (by decide) (hts (.fieldLink RX0 12 "TheLiningsInIt$Jacket" "zip" "LTheLiningsInIt$Zip;") (List.mem_of_getElem? (i := 1) rfl)) (fun _ h9 => h9) rfl dX0_closeInTruth_102 ?_
      refine va_get (D := D) (ci := 6) (v := .int sz) (C := RX6) (T := TX6) (N := 5) hx hb hts hi_X0_closeInTruth_6 hown hK hP 1 rfl rfl 2 (by decide) (hts (.fieldLink RX0 57 "TheLiningsInIt$Zip" "size" "I") (List.mem_of_getElem? (i := 3) rfl)) (fun _ h9 => h9) rfl dX0_closeInTruth_105 ?_
      refine va_put (D := D) (ci := 6) (v := .int sz) (ty := .int) (C := RX6) (T := TX6) (N := 5) hx hb hts hi_X0_closeInTruth_6 tyX6 tyX6_ok nmX6 hown hK hP hD hS 1 rfl rfl 3 (by decide) (hts (.fieldLink RX0 63 "TheLiningsInIt$Zip" "at" "I") (List.mem_of_getElem? (i := 2) rfl)) (fun _ h9 => h9) rfl (by decide +kernel) rfl rfl (Nat.le_of_ble_eq_true rfl) dX0_closeInTruth_108 (fun H locs hP hD hS => ?_)
      have h9R := zRe (ws' := [(j0, .inr (0, [.ref z0, .ref jp, .ref jc, .int cn, .int de, .int tr, .int se, .int hu, .int v_2])), (z0, .inr (6, [.ref zl, .ref zs, .int sz, .int sz, .int gp])), (zl, .inl (cZ, 40, .inl fl)), (zs, .inl (cI, 40, .inl fs))]) hP hD rfl
      clear hP hD
      obtain ⟨hP, hD⟩ := h9R
      exact W.vret hx hb hr (fun t ht hW => ⟨⟨(de, v_2, sz), rfl, ⟨(show 0 ≤ de.toInt ∧ de.toInt ≤ 24 from ⟨hy2, hy3⟩), (show 0 ≤ sz.toInt ∧ sz.toInt ≤ 40 from ⟨by omega, hy7⟩), trivial⟩, zRet ht hP hD [0, 1, 2, 3] (by decide) rfl⟩, hS.F ht⟩) hS.2.2 dX0_closeInTruth_111
    · have fc_4 : i_8.toInt < sz.toInt := zf_nle c_4 rfl rfl
      refine lv_aload_n hx hb dX0_closeInTruth_19 rfl (lv_at hl 1 rfl) ?_
      refine va_get (D := D) (ci := 0) (v := .ref z0) (C := RX0) (T := TX0) (N := 9) hx hb hts hi_X0_closeInTruth_0 hown hK hP 0 rfl rfl 0 (by decide) (hts (.fieldLink RX0 12 "TheLiningsInIt$Jacket" "zip" "LTheLiningsInIt$Zip;") (List.mem_of_getElem? (i := 1) rfl)) (fun _ h9 => h9) rfl dX0_closeInTruth_20 ?_
      refine lv_iload_n hx hb dX0_closeInTruth_23 rfl (lv_at hl 0 rfl) ?_
      refine va_put (D := D) (ci := 6) (v := .int i_8) (ty := .int) (C := RX6) (T := TX6) (N := 5) hx hb hts hi_X0_closeInTruth_6 tyX6 tyX6_ok nmX6 hown hK hP hD hS 1 rfl rfl 3 (by decide) (hts (.fieldLink RX0 63 "TheLiningsInIt$Zip" "at" "I") (List.mem_of_getElem? (i := 2) rfl)) (fun _ h9 => h9) rfl (by decide +kernel) rfl rfl (Nat.le_of_ble_eq_true rfl) dX0_closeInTruth_24 (fun H locs hP hD hS => ?_)
      have h9R := zRe (ws' := [(j0, .inr (0, [.ref z0, .ref jp, .ref jc, .int cn, .int de, .int tr, .int se, .int hu, .int v_2])), (z0, .inr (6, [.ref zl, .ref zs, .int sz, .int i_8, .int gp])), (zl, .inl (cZ, 40, .inl fl)), (zs, .inl (cI, 40, .inl fs))]) hP hD rfl
      clear hP hD
      obtain ⟨hP, hD⟩ := h9R
      refine lv_aload_n hx hb dX0_closeInTruth_27 rfl (lv_at hl 1 rfl) ?_
      refine va_get (D := D) (ci := 0) (v := .ref z0) (C := RX0) (T := TX0) (N := 9) hx hb hts hi_X0_closeInTruth_0 hown hK hP 0 rfl rfl 0 (by decide) (hts (.fieldLink RX0 12 "TheLiningsInIt$Jacket" "zip" "LTheLiningsInIt$Zip;") (List.mem_of_getElem? (i := 1) rfl)) (fun _ h9 => h9) rfl dX0_closeInTruth_28 ?_
      refine lv_iload_n hx hb dX0_closeInTruth_31 rfl (lv_at hl 0 rfl) ?_
      refine zc_V (As := [.int i_8]) (rest := []) ⟨hx, hb, hml, hown, hts⟩ (c_Zip_catchesAt l D cI cJ cZ cP cS po z0 zl zs (sz) (i_8) (gp) fl fs (i_8) hy6 hy7 (by omega) (by omega) hy10 hy11 hp_fl hp_fs) (cwV 1 hts gX0_closeInTruth_X6_catchesAt rfl rfl rfl (by decide +kernel) ⟨Nat.le_of_ble_eq_true rfl, Nat.le_of_ble_eq_true rfl⟩) hK hN (hZ.kept hS) hP (hP.sub [1, 2, 3] rfl) (va_recv hK hP (ci := 6) (q0 := 1) rfl rfl) rfl hl.1 rfl (Nat.le_of_ble_eq_true rfl) dX0_closeInTruth_32 ⟨Nat.le_of_ble_eq_true rfl, Nat.le_of_ble_eq_true rfl⟩ (fun r_5 hr_5 => ?_)
      obtain ⟨g_6, g_7⟩ := hr_5
      refine lv_if_eq (tgt := 79) hx hb dX0_closeInTruth_35 (by decide) (fun c_8 => ?_) (fun c_8 => ?_)
      · have fc_8 : r_5.toInt = 0 := zf_eq c_8 rfl (by decide)
        refine lv_aload_n hx hb dX0_closeInTruth_79 rfl (lv_at hl 1 rfl) ?_
        refine va_get (D := D) (ci := 0) (v := .ref z0) (C := RX0) (T := TX0) (N := 9) hx hb hts hi_X0_closeInTruth_0 hown hK hP 0 rfl rfl 0 (by decide) (hts (.fieldLink RX0 12 "TheLiningsInIt$Jacket" "zip" "LTheLiningsInIt$Zip;") (List.mem_of_getElem? (i := 1) rfl)) (fun _ h9 => h9) rfl dX0_closeInTruth_80 ?_
        refine lv_iload_n hx hb dX0_closeInTruth_83 rfl (lv_at hl 0 rfl) ?_
        refine zc_V (As := [.int i_8]) (rest := []) ⟨hx, hb, hml, hown, hts⟩ (c_Zip_lacks3 l D cI cJ cZ cP cS po z0 zl zs (sz) (i_8) (gp) fl ((fun _ => 0)) (i_8) hy6 hy7 (by omega) (by omega) hy10 hy11 hp_fl) (cwV 1 hts gX0_closeInTruth_X6_lacksThreeFrom rfl rfl rfl (by decide +kernel) ⟨Nat.le_of_ble_eq_true rfl, Nat.le_of_ble_eq_true rfl⟩) hK hN (hZ.kept hS) hP (hP.sub [1, 2] rfl) (va_recv hK hP (ci := 6) (q0 := 1) rfl rfl) rfl hl.1 rfl (Nat.le_of_ble_eq_true rfl) dX0_closeInTruth_84 ⟨Nat.le_of_ble_eq_true rfl, Nat.le_of_ble_eq_true rfl⟩ (fun r_9 hr_9 => ?_)
        obtain ⟨g_10, g_11⟩ := hr_9
        refine lv_if_eq (tgt := 91) hx hb dX0_closeInTruth_87 (by decide) (fun c_12 => ?_) (fun c_12 => ?_)
        · have fc_12 : r_9.toInt = 0 := zf_eq c_12 rfl (by decide)
          obtain ⟨x_13, ex_13⟩ : ∃ y : Int32, y = i_8 + 1 := ⟨_, rfl⟩
          have qx_13 : x_13.toInt = i_8.toInt + 1 := by rw [ex_13]; exact zf_add rfl (by decide) (by omega) (by omega)
          refine lv_iinc (v := x_13) (lv' := [(1, .int x_13), (0, .ref j0)]) hx hb dX0_closeInTruth_91 hl (k := 0) rfl ex_13.symm (by decide) rfl (fun ls hl => ?_)
          refine lv_goto (tgt := 8) hx hb dX0_closeInTruth_94 (by decide) ?_
          exact ih x_13 (v_2) (i_8) _ _ _ (hP.sub [0, 1, 2, 3] rfl) (hD.sub [0, 1, 2, 3] (by decide) rfl) hS (lv_sub hl [0, 1] rfl) ⟨by omega, by omega⟩ (by omega) (by omega)
        · have fc_12 : r_9.toInt ≠ 0 := zf_ne c_12 rfl (by decide)
          exact W.vret hx hb hr (fun t ht hW => ⟨⟨(de, v_2, i_8), rfl, ⟨(show 0 ≤ de.toInt ∧ de.toInt ≤ 24 from ⟨hy2, hy3⟩), (show 0 ≤ i_8.toInt ∧ i_8.toInt ≤ 40 from ⟨by omega, by omega⟩), trivial⟩, zRet ht hP hD [0, 1, 2, 3] (by decide) rfl⟩, hS.F ht⟩) hS.2.2 dX0_closeInTruth_90
      · have fc_8 : r_5.toInt ≠ 0 := zf_ne c_8 rfl (by decide)
        refine lv_aload_n hx hb dX0_closeInTruth_38 rfl (lv_at hl 1 rfl) ?_
        refine lv_bipush (v := 10) hx hb dX0_closeInTruth_39 (by decide) ?_
        skip
        refine zw_V (As := [.int 10]) (rest := []) (wr := [(z0, .inr (6, [.ref zl, .ref zs, .int sz, .int i_8, .int gp])), (zl, .inl (cZ, 40, .inl fl)), (zs, .inl (cI, 40, .inl fs))]) ⟨hx, hb, hml, hown, hts⟩ (c_J_draw_10 l D cI cJ cZ cP cS po j0 jp jc z0 0 0 (cn) (de) (tr) (se) (hu) (v_2) hy0 hy1 hy2 hy3 hy4 hy5 H.size) (cwV 1 hts gX0_closeInTruth_X0_draw rfl rfl rfl (by decide +kernel) ⟨Nat.le_of_ble_eq_true rfl, Nat.le_of_ble_eq_true rfl⟩) hK hN (hZ.kept hS) hP hD hS hA [0] [1, 2, 3] rfl rfl (by decide) (by decide) (by decide) (va_recv hK hP (ci := 0) (q0 := 0) rfl rfl) rfl hl.1 rfl (Nat.le_of_ble_eq_true rfl) dX0_closeInTruth_41 ⟨Nat.le_of_ble_eq_true rfl, Nat.le_of_ble_eq_true rfl⟩ (fun r_14 u_15 H locs hr_14 hP hD hS => ?_)
        obtain ⟨q_16, rfl⟩ : ∃ z, z = u_15 := ⟨_, rfl⟩
        have h9R := zRe (ws' := [(z0, .inr (6, [.ref zl, .ref zs, .int sz, .int i_8, .int gp])), (zl, .inl (cZ, 40, .inl fl)), (zs, .inl (cI, 40, .inl fs)), (j0, .inr (0, [.ref z0, .ref jp, .ref jc, .int cn, .int de, .int tr, .int se, .int hu, .int q_16]))]) hP hD rfl
        clear hP hD
        obtain ⟨hP, hD⟩ := h9R
        obtain ⟨g_17, g_18⟩ := hr_14
        refine lv_aload_n hx hb dX0_closeInTruth_44 rfl (lv_at hl 1 rfl) ?_
        refine va_get (D := D) (ci := 0) (v := .ref z0) (C := RX0) (T := TX0) (N := 9) hx hb hts hi_X0_closeInTruth_0 hown hK hP 3 rfl rfl 0 (by decide) (hts (.fieldLink RX0 12 "TheLiningsInIt$Jacket" "zip" "LTheLiningsInIt$Zip;") (List.mem_of_getElem? (i := 1) rfl)) (fun _ h9 => h9) rfl dX0_closeInTruth_45 ?_
        refine va_get (D := D) (ci := 6) (v := .ref zs) (C := RX6) (T := TX6) (N := 5) hx hb hts hi_X0_closeInTruth_6 hown hK hP 0 rfl rfl 1 (by decide) (hts (.fieldLink RX0 109 "TheLiningsInIt$Zip" "slacks" "[I") (List.mem_of_getElem? (i := 4) rfl)) (fun _ h9 => h9) rfl dX0_closeInTruth_48 ?_
        refine lv_iload_n hx hb dX0_closeInTruth_51 rfl (lv_at hl 0 rfl) ?_
        refine va_iald hx hb hK hP 2 0 rfl rfl (zf_in (by omega) (by omega)) dX0_closeInTruth_52 ?_
        refine lv_topi (fun x_19 ex_19 => ?_)
        have bx_19 : 0 ≤ x_19.toInt ∧ x_19.toInt ≤ 9 := by rw [ex_19]; exact hp_fs _
        refine lv_aload_n hx hb dX0_closeInTruth_53 rfl (lv_at hl 1 rfl) ?_
        refine va_get (D := D) (ci := 0) (v := .ref z0) (C := RX0) (T := TX0) (N := 9) hx hb hts hi_X0_closeInTruth_0 hown hK hP 3 rfl rfl 0 (by decide) (hts (.fieldLink RX0 12 "TheLiningsInIt$Jacket" "zip" "LTheLiningsInIt$Zip;") (List.mem_of_getElem? (i := 1) rfl)) (fun _ h9 => h9) rfl dX0_closeInTruth_54 ?_
        refine va_get (D := D) (ci := 6) (v := .int gp) (C := RX6) (T := TX6) (N := 5) hx hb hts hi_X0_closeInTruth_6 hown hK hP 0 rfl rfl 4 (by decide) (hts (.fieldLink RX0 60 "TheLiningsInIt$Zip" "gap" "I") (List.mem_of_getElem? (i := 5) rfl)) (fun _ h9 => h9) rfl dX0_closeInTruth_57 ?_
        refine lv_isub hx hb dX0_closeInTruth_60 ?_
        refine lv_topi (fun x_20 ex_20 => ?_)
        have qx_20 : x_20.toInt = x_19.toInt - gp.toInt := by rw [ex_20]; exact zf_sub rfl rfl (by omega) (by omega)
        refine lv_iconst (v := 1) hx hb dX0_closeInTruth_61 (by decide) ?_
        refine lv_iadd hx hb dX0_closeInTruth_62 ?_
        refine lv_topi (fun x_21 ex_21 => ?_)
        have qx_21 : x_21.toInt = x_20.toInt + 1 := by rw [ex_21]; exact zf_add rfl (by decide) (by omega) (by omega)
        refine lv_icmp_ge (tgt := 79) hx hb dX0_closeInTruth_63 (by decide) (fun c_22 => ?_) (fun c_22 => ?_)
        · have fc_22 : x_21.toInt ≤ r_14.toInt := zf_le c_22 rfl rfl
          refine lv_aload_n hx hb dX0_closeInTruth_79 rfl (lv_at hl 1 rfl) ?_
          refine va_get (D := D) (ci := 0) (v := .ref z0) (C := RX0) (T := TX0) (N := 9) hx hb hts hi_X0_closeInTruth_0 hown hK hP 3 rfl rfl 0 (by decide) (hts (.fieldLink RX0 12 "TheLiningsInIt$Jacket" "zip" "LTheLiningsInIt$Zip;") (List.mem_of_getElem? (i := 1) rfl)) (fun _ h9 => h9) rfl dX0_closeInTruth_80 ?_
          refine lv_iload_n hx hb dX0_closeInTruth_83 rfl (lv_at hl 0 rfl) ?_
          refine zc_V (As := [.int i_8]) (rest := []) ⟨hx, hb, hml, hown, hts⟩ (c_Zip_lacks3 l D cI cJ cZ cP cS po z0 zl zs (sz) (i_8) (gp) fl ((fun _ => 0)) (i_8) hy6 hy7 (by omega) (by omega) hy10 hy11 hp_fl) (cwV 1 hts gX0_closeInTruth_X6_lacksThreeFrom rfl rfl rfl (by decide +kernel) ⟨Nat.le_of_ble_eq_true rfl, Nat.le_of_ble_eq_true rfl⟩) hK hN (hZ.kept hS) hP (hP.sub [0, 1] rfl) (va_recv hK hP (ci := 6) (q0 := 0) rfl rfl) rfl hl.1 rfl (Nat.le_of_ble_eq_true rfl) dX0_closeInTruth_84 ⟨Nat.le_of_ble_eq_true rfl, Nat.le_of_ble_eq_true rfl⟩ (fun r_23 hr_23 => ?_)
          obtain ⟨g_24, g_25⟩ := hr_23
          refine lv_if_eq (tgt := 91) hx hb dX0_closeInTruth_87 (by decide) (fun c_26 => ?_) (fun c_26 => ?_)
          · have fc_26 : r_23.toInt = 0 := zf_eq c_26 rfl (by decide)
            obtain ⟨x_27, ex_27⟩ : ∃ y : Int32, y = i_8 + 1 := ⟨_, rfl⟩
            have qx_27 : x_27.toInt = i_8.toInt + 1 := by rw [ex_27]; exact zf_add rfl (by decide) (by omega) (by omega)
            refine lv_iinc (v := x_27) (lv' := [(1, .int x_27), (0, .ref j0)]) hx hb dX0_closeInTruth_91 hl (k := 0) rfl ex_27.symm (by decide) rfl (fun ls hl => ?_)
            refine lv_goto (tgt := 8) hx hb dX0_closeInTruth_94 (by decide) ?_
            exact ih x_27 (q_16) (i_8) _ _ _ (hP.sub [3, 0, 1, 2] rfl) (hD.sub [3, 0, 1, 2] (by decide) rfl) hS (lv_sub hl [0, 1] rfl) ⟨by omega, by omega⟩ (by omega) (by omega)
          · have fc_26 : r_23.toInt ≠ 0 := zf_ne c_26 rfl (by decide)
            exact W.vret hx hb hr (fun t ht hW => ⟨⟨(de, q_16, i_8), rfl, ⟨(show 0 ≤ de.toInt ∧ de.toInt ≤ 24 from ⟨hy2, hy3⟩), (show 0 ≤ i_8.toInt ∧ i_8.toInt ≤ 40 from ⟨by omega, by omega⟩), trivial⟩, zRet ht hP hD [3, 0, 1, 2] (by decide) rfl⟩, hS.F ht⟩) hS.2.2 dX0_closeInTruth_90
        · have fc_22 : r_14.toInt < x_21.toInt := zf_nle c_22 rfl rfl
          refine lv_aload_n hx hb dX0_closeInTruth_66 rfl (lv_at hl 1 rfl) ?_
          refine lv_iconst (v := 1) hx hb dX0_closeInTruth_67 (by decide) ?_
          refine lv_aload_n hx hb dX0_closeInTruth_68 rfl (lv_at hl 1 rfl) ?_
          refine lv_bipush (v := 6) hx hb dX0_closeInTruth_69 (by decide) ?_
          skip
          refine zw_V (As := [.int 6]) (rest := [.int 1, .ref j0]) (wr := [(z0, .inr (6, [.ref zl, .ref zs, .int sz, .int i_8, .int gp])), (zl, .inl (cZ, 40, .inl fl)), (zs, .inl (cI, 40, .inl fs))]) ⟨hx, hb, hml, hown, hts⟩ (c_J_draw_6 l D cI cJ cZ cP cS po j0 jp jc z0 0 0 (cn) (de) (tr) (se) (hu) (q_16) hy0 hy1 hy2 hy3 hy4 hy5 H.size) (cwV 1 hts gX0_closeInTruth_X0_draw rfl rfl rfl (by decide +kernel) ⟨Nat.le_of_ble_eq_true rfl, Nat.le_of_ble_eq_true rfl⟩) hK hN (hZ.kept hS) hP hD hS hA [3] [0, 1, 2] rfl rfl (by decide) (by decide) (by decide) (va_recv hK hP (ci := 0) (q0 := 3) rfl rfl) rfl hl.1 rfl (Nat.le_of_ble_eq_true rfl) dX0_closeInTruth_71 ⟨Nat.le_of_ble_eq_true rfl, Nat.le_of_ble_eq_true rfl⟩ (fun r_28 u_29 H locs hr_28 hP hD hS => ?_)
          obtain ⟨q_30, rfl⟩ : ∃ z, z = u_29 := ⟨_, rfl⟩
          have h9R := zRe (ws' := [(z0, .inr (6, [.ref zl, .ref zs, .int sz, .int i_8, .int gp])), (zl, .inl (cZ, 40, .inl fl)), (zs, .inl (cI, 40, .inl fs)), (j0, .inr (0, [.ref z0, .ref jp, .ref jc, .int cn, .int de, .int tr, .int se, .int hu, .int q_30]))]) hP hD rfl
          clear hP hD
          obtain ⟨hP, hD⟩ := h9R
          obtain ⟨g_31, g_32⟩ := hr_28
          refine lv_iadd hx hb dX0_closeInTruth_74 ?_
          refine lv_topi (fun x_33 ex_33 => ?_)
          have qx_33 : x_33.toInt = 1 + r_28.toInt := by rw [ex_33]; exact zf_add (by decide) rfl (by omega) (by omega)
          refine va_put (D := D) (ci := 0) (v := .int x_33) (ty := .int) (C := RX0) (T := TX0) (N := 9) hx hb hts hi_X0_closeInTruth_0 tyX0 tyX0_ok nmX0 hown hK hP hD hS 3 rfl rfl 4 (by decide) (hts (.fieldLink RX0 32 "TheLiningsInIt$Jacket" "depth" "I") (List.mem_of_getElem? (i := 6) rfl)) (fun _ h9 => h9) rfl (by decide +kernel) rfl rfl (Nat.le_of_ble_eq_true rfl) dX0_closeInTruth_75 (fun H locs hP hD hS => ?_)
          have h9R := zRe (ws' := [(z0, .inr (6, [.ref zl, .ref zs, .int sz, .int i_8, .int gp])), (zl, .inl (cZ, 40, .inl fl)), (zs, .inl (cI, 40, .inl fs)), (j0, .inr (0, [.ref z0, .ref jp, .ref jc, .int cn, .int x_33, .int tr, .int se, .int hu, .int q_30]))]) hP hD rfl
          clear hP hD
          obtain ⟨hP, hD⟩ := h9R
          exact W.vret hx hb hr (fun t ht hW => ⟨⟨(x_33, q_30, i_8), rfl, ⟨(show 0 ≤ x_33.toInt ∧ x_33.toInt ≤ 24 from ⟨by omega, by omega⟩), (show 0 ≤ i_8.toInt ∧ i_8.toInt ≤ 40 from ⟨by omega, by omega⟩), trivial⟩, zRet ht hP hD [3, 0, 1, 2] (by decide) rfl⟩, hS.F ht⟩) hS.2.2 dX0_closeInTruth_78

