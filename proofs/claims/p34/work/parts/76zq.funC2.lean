section
set_option maxHeartbeats 4000000 in
set_option maxRecDepth 100000 in
theorem c_F_Zip_runsTo (l : Launch) (D : va_G) (cI cJ cZ cP cS : ClassId) (po : zPool) (z0 zl zs : Nat) (sz at_ gp : Int32) (fl fs : Nat → Int32)  (hy0 : 4 ≤ sz.toInt) (hy1 : sz.toInt ≤ 40) (hy2 : 0 ≤ at_.toInt) (hy3 : at_.toInt ≤ 40) (hy4 : 1 ≤ gp.toInt) (hy5 : gp.toInt ≤ 9) (hy6 : at_.toInt ≤ sz.toInt) (hp_fl : zRg fl (0) 1) (hp_fs : zRg fs (0) 9) : Met l yX6_runsTo wsX6_runsTo ({ frames := 3, cells := 0, slots := 0, locals := 63 }) (va_Pc [.ref z0] (zR D (zKT cI cJ cZ cP cS) po [(z0, .inr (6, [.ref zl, .ref zs, .int sz, .int at_, .int gp])), (zl, .inl (cZ, 40, .inl fl)), (zs, .inl (cI, 40, .inl fs))])) (vp_Si (fun r => 0 ≤ r.toInt ∧ r.toInt ≤ 40 ∧ (r.toInt = zRu fl fs gp.toInt sz.toInt (sz.toInt - at_.toInt).toNat at_.toInt))) 0 0 (fun _ => False) := by
  refine Met.ofW (cc := cX6_runsTo) (maxL := 2) (ret := (some .int)) (by decide) rfl ?_
  intro p e s m args below meth c s₁ B hml hv
  obtain ⟨rfl, hP, hK, hN, hZ⟩ := hv
  have hx := B.exec
  have hb := B.bytes
  have hr := B.returns
  have hts := atoms_spec (ws := wsX6_runsTo) B.pre
  have hown : s.vm.findClass RX6 = some m.cls := findClass_of_methodNamed B.named
  have hlocks := B.notSynchronized
  have hl := lv_entry ([.ref z0]) (n := 2) (Nat.le_of_ble_eq_true rfl)
  rw [lg_entry_eq]
  generalize (lg_sl ([.ref z0]) ++ List.replicate (2 - (lg_sl ([.ref z0])).length) Slot.unset).toArray = ls at hl ⊢
  replace hl : lv_has ls 2 [(0, .ref z0)] := hl
  refine lv_aload_n hx hb dX6_runsTo_0 rfl (lv_at hl 0 rfl) ?_
  refine va_get (D := D) (ci := 6) (v := .int at_) (C := RX6) (T := TX6) (N := 5) hx hb hts hi_X6_runsTo_6 hown hK hP 0 rfl rfl 3 (by decide) (hts (.fieldLink RX6 23 "TheLiningsInIt$Zip" "at" "I") (List.mem_of_getElem? (i := 1) rfl)) (fun _ h9 => h9) rfl dX6_runsTo_1 ?_
  refine lv_istore_n (lv' := [(1, .int at_), (0, .ref z0)]) hx hb dX6_runsTo_4 rfl hl (by decide) rfl (fun ls hl => ?_)
  obtain ⟨i_5, hi_5⟩ : ∃ i : Int32, i = at_ := ⟨_, rfl⟩
  replace hl : lv_has ls 2 [(1, .int i_5), (0, .ref z0)] := by rw [hi_5]; exact lv_sub hl [0, 1] rfl
  have h1i_5 : i_5.toInt = at_.toInt := by rw [hi_5]
  obtain ⟨nfu, hni_5⟩ : ∃ nq9 : Nat, sz.toInt ≤ i_5.toInt + (nq9 : Int) := ⟨((sz.toInt : Int) - at_.toInt).toNat, by omega⟩
  have hloi_5 : 0 ≤ i_5.toInt := by omega
  have hvi_5_0 : zRu fl fs gp.toInt sz.toInt (sz.toInt - at_.toInt).toNat at_.toInt = zRu fl fs gp.toInt sz.toInt (sz.toInt - i_5.toInt).toNat i_5.toInt := by
    (try rw [hi_5]); first | done | rfl
  have hvi_5_1 : at_.toInt ≤ i_5.toInt ∧ i_5.toInt ≤ sz.toInt := by
    (try rw [hi_5]); exact ⟨by omega, by omega⟩
  clear h1i_5 hi_5
  revert hni_5
  revert hloi_5
  revert hvi_5_1
  revert hvi_5_0
  revert hl
  revert ls
  revert i_5
  induction nfu with
  | zero =>
    intro i_5 ls hl hvi_5_0 hvi_5_1 hloi_5 hni_5
    have hzi_5 : sz.toInt ≤ i_5.toInt := by omega
    refine lv_iload_n hx hb dX6_runsTo_5 rfl (lv_at hl 0 rfl) ?_
    refine lv_aload_n hx hb dX6_runsTo_6 rfl (lv_at hl 1 rfl) ?_
    refine va_get (D := D) (ci := 6) (v := .int sz) (C := RX6) (T := TX6) (N := 5) hx hb hts hi_X6_runsTo_6 hown hK hP 0 rfl rfl 2 (by decide) (hts (.fieldLink RX6 19 "TheLiningsInIt$Zip" "size" "I") (List.mem_of_getElem? (i := 2) rfl)) (fun _ h9 => h9) rfl dX6_runsTo_7 ?_
    refine lv_icmp_ge (tgt := 37) hx hb dX6_runsTo_10 (by decide) (fun c_1 => ?_) (fun c_1 => ?_)
    · have fc_1 : sz.toInt ≤ i_5.toInt := zf_le c_1 rfl rfl
      refine lv_aload_n hx hb dX6_runsTo_37 rfl (lv_at hl 1 rfl) ?_
      refine va_get (D := D) (ci := 6) (v := .int sz) (C := RX6) (T := TX6) (N := 5) hx hb hts hi_X6_runsTo_6 hown hK hP 0 rfl rfl 2 (by decide) (hts (.fieldLink RX6 19 "TheLiningsInIt$Zip" "size" "I") (List.mem_of_getElem? (i := 2) rfl)) (fun _ h9 => h9) rfl dX6_runsTo_38 ?_
      exact W.iret (v := sz) hx hb hr (fun t ht hW => ⟨sz, rfl, ⟨by omega, by omega, (show (sz : Int32).toInt = zRu fl fs gp.toInt sz.toInt (sz.toInt - at_.toInt).toNat at_.toInt from by (rw [hvi_5_0, show (sz.toInt - i_5.toInt).toNat = 0 from by omega]; show sz.toInt = i_5.toInt; omega))⟩, ht⟩) (fun q hq => by cases hq) dX6_runsTo_41
    · exfalso; have fc_1 : i_5.toInt < sz.toInt := zf_nle c_1 rfl rfl; omega
  | succ nfu ih =>
    intro i_5 ls hl hvi_5_0 hvi_5_1 hloi_5 hni_5
    refine lv_iload_n hx hb dX6_runsTo_5 rfl (lv_at hl 0 rfl) ?_
    refine lv_aload_n hx hb dX6_runsTo_6 rfl (lv_at hl 1 rfl) ?_
    refine va_get (D := D) (ci := 6) (v := .int sz) (C := RX6) (T := TX6) (N := 5) hx hb hts hi_X6_runsTo_6 hown hK hP 0 rfl rfl 2 (by decide) (hts (.fieldLink RX6 19 "TheLiningsInIt$Zip" "size" "I") (List.mem_of_getElem? (i := 2) rfl)) (fun _ h9 => h9) rfl dX6_runsTo_7 ?_
    refine lv_icmp_ge (tgt := 37) hx hb dX6_runsTo_10 (by decide) (fun c_2 => ?_) (fun c_2 => ?_)
    · have fc_2 : sz.toInt ≤ i_5.toInt := zf_le c_2 rfl rfl
      refine lv_aload_n hx hb dX6_runsTo_37 rfl (lv_at hl 1 rfl) ?_
      refine va_get (D := D) (ci := 6) (v := .int sz) (C := RX6) (T := TX6) (N := 5) hx hb hts hi_X6_runsTo_6 hown hK hP 0 rfl rfl 2 (by decide) (hts (.fieldLink RX6 19 "TheLiningsInIt$Zip" "size" "I") (List.mem_of_getElem? (i := 2) rfl)) (fun _ h9 => h9) rfl dX6_runsTo_38 ?_
      exact W.iret (v := sz) hx hb hr (fun t ht hW => ⟨sz, rfl, ⟨by omega, by omega, (show (sz : Int32).toInt = zRu fl fs gp.toInt sz.toInt (sz.toInt - at_.toInt).toNat at_.toInt from by (rw [hvi_5_0, show (sz.toInt - i_5.toInt).toNat = 0 from by omega]; show sz.toInt = i_5.toInt; omega))⟩, ht⟩) (fun q hq => by cases hq) dX6_runsTo_41
    · have fc_2 : i_5.toInt < sz.toInt := zf_nle c_2 rfl rfl
      refine lv_aload_n hx hb dX6_runsTo_13 rfl (lv_at hl 1 rfl) ?_
      refine lv_iload_n hx hb dX6_runsTo_14 rfl (lv_at hl 0 rfl) ?_
      refine zc_V (As := [.int i_5]) (rest := []) ⟨hx, hb, hml, hown, hts⟩ (c_F_Zip_catchesAt l D cI cJ cZ cP cS po z0 zl zs (sz) (at_) (gp) fl fs (i_5) hy0 hy1 hy2 hy3 hy4 hy5 hp_fl hp_fs) (cwV 1 hts gX6_runsTo_X6_catchesAt rfl rfl rfl ⟨rfl, dh_X6_catchesAt⟩ ⟨Nat.le_of_ble_eq_true rfl, Nat.le_of_ble_eq_true rfl⟩) hK hN hZ hP (hP.sub [0, 1, 2] rfl) (va_recv (q := (RX6, TX6, 5)) hK hP (ci := 6) (q0 := 0) rfl rfl) rfl hl.1 rfl (Nat.le_of_ble_eq_true rfl) dX6_runsTo_15 ⟨Nat.le_of_ble_eq_true rfl, Nat.le_of_ble_eq_true rfl⟩ (fun r_3 hr_3 => ?_)
      obtain ⟨g_4, g_5, hsr_3_0⟩ := hr_3
      replace hsr_3_0 := zHid_i hsr_3_0
      refine lv_if_ne (tgt := 29) hx hb dX6_runsTo_18 (by decide) (fun c_6 => ?_) (fun c_6 => ?_)
      · have fc_6 : r_3.toInt ≠ 0 := zf_ne c_6 rfl (by decide)
        refine lv_iload_n hx hb dX6_runsTo_29 rfl (lv_at hl 0 rfl) ?_
        exact W.iret (v := i_5) hx hb hr (fun t ht hW => ⟨i_5, rfl, ⟨by omega, by omega, (show (i_5 : Int32).toInt = zRu fl fs gp.toInt sz.toInt (sz.toInt - at_.toInt).toNat at_.toInt from by (rw [hvi_5_0, show (sz.toInt - i_5.toInt).toNat = (sz.toInt - (i_5.toInt + 1)).toNat + 1 from by omega, zRu_s, if_pos (by first | exact Or.inr (Or.inl (hsr_3_0.1 (by omega)).2.2))]))⟩, ht⟩) (fun q hq => by cases hq) dX6_runsTo_30
      · have fc_6 : r_3.toInt = 0 := zf_eq c_6 rfl (by decide)
        refine lv_aload_n hx hb dX6_runsTo_21 rfl (lv_at hl 1 rfl) ?_
        refine lv_iload_n hx hb dX6_runsTo_22 rfl (lv_at hl 0 rfl) ?_
        refine zc_V (As := [.int i_5]) (rest := []) ⟨hx, hb, hml, hown, hts⟩ (c_F_Zip_lacks3 l D cI cJ cZ cP cS po z0 zl zs (sz) (at_) (gp) fl ((fun _ => 0)) (i_5) hy0 hy1 hy2 hy3 hy4 hy5 (by omega) (by omega) hp_fl) (cwV 1 hts gX6_runsTo_X6_lacksThreeFrom rfl rfl rfl ⟨rfl, dh_X6_lacksThreeFrom⟩ ⟨Nat.le_of_ble_eq_true rfl, Nat.le_of_ble_eq_true rfl⟩) hK hN hZ hP (hP.sub [0, 1] rfl) (va_recv (q := (RX6, TX6, 5)) hK hP (ci := 6) (q0 := 0) rfl rfl) rfl hl.1 rfl (Nat.le_of_ble_eq_true rfl) dX6_runsTo_23 ⟨Nat.le_of_ble_eq_true rfl, Nat.le_of_ble_eq_true rfl⟩ (fun r_7 hr_7 => ?_)
        obtain ⟨g_8, g_9, hsr_7_0⟩ := hr_7
        replace hsr_7_0 := zHid_i hsr_7_0
        refine lv_if_eq (tgt := 31) hx hb dX6_runsTo_26 (by decide) (fun c_10 => ?_) (fun c_10 => ?_)
        · have fc_10 : r_7.toInt = 0 := zf_eq c_10 rfl (by decide)
          obtain ⟨x_11, ex_11⟩ : ∃ y : Int32, y = i_5 + 1 := ⟨_, rfl⟩
          have qx_11 : x_11.toInt = i_5.toInt + 1 := dw_inc ex_11 fc_2
          refine lv_iinc (v := x_11) (lv' := [(1, .int x_11), (0, .ref z0)]) hx hb dX6_runsTo_31 hl (k := 0) rfl ex_11.symm (by decide) rfl (fun ls hl => ?_)
          refine lv_goto (tgt := 5) hx hb dX6_runsTo_34 (by decide) ?_
          exact ih x_11 _ (lv_sub hl [0, 1] rfl) (show zRu fl fs gp.toInt sz.toInt (sz.toInt - at_.toInt).toNat at_.toInt = zRu fl fs gp.toInt sz.toInt (sz.toInt - x_11.toInt).toNat x_11.toInt from by (rw [hvi_5_0, show (sz.toInt - i_5.toInt).toNat = (sz.toInt - x_11.toInt).toNat + 1 from by omega, zRu_s, if_neg (fun z => by (rcases z with z | z | z; (omega); (exact hsr_3_0.2 (by omega) ⟨by omega, by omega, z⟩); (exact hsr_7_0.2 (by omega) z))), show x_11.toInt = i_5.toInt + 1 from by omega])) (show at_.toInt ≤ x_11.toInt ∧ x_11.toInt ≤ sz.toInt from by exact ⟨by omega, by omega⟩) (dw_lo hloi_5 qx_11) (dw_hn hni_5 qx_11)
        · have fc_10 : r_7.toInt ≠ 0 := zf_ne c_10 rfl (by decide)
          refine lv_iload_n hx hb dX6_runsTo_29 rfl (lv_at hl 0 rfl) ?_
          exact W.iret (v := i_5) hx hb hr (fun t ht hW => ⟨i_5, rfl, ⟨by omega, by omega, (show (i_5 : Int32).toInt = zRu fl fs gp.toInt sz.toInt (sz.toInt - at_.toInt).toNat at_.toInt from by (rw [hvi_5_0, show (sz.toInt - i_5.toInt).toNat = (sz.toInt - (i_5.toInt + 1)).toNat + 1 from by omega, zRu_s, if_pos (by first | exact Or.inr (Or.inl (hsr_3_0.1 (by omega)).2.2) | exact Or.inr (Or.inr (hsr_7_0.1 (by omega))))]))⟩, ht⟩) (fun q hq => by cases hq) dX6_runsTo_30
set_option maxHeartbeats 4000000 in
set_option maxRecDepth 100000 in
theorem c_F_X_closed (l : Launch) (D : va_G) (cI cJ cZ cP cS : ClassId) (po : zPool) (x0 xs j0 k0 w0 rd mv xr : Nat) (im lf : Int32) (fr : Nat → Int32) (j0 jp jc z0 zl zs : Nat) (cn de tr se hu sd : Int32) (sz at_ gp : Int32) (fl fs : Nat → Int32) (hy0 : 0 ≤ im.toInt) (hy1 : im.toInt ≤ 1) (hy2 : (-1) ≤ lf.toInt) (hy3 : lf.toInt ≤ 160) (hy4 : 0 ≤ cn.toInt) (hy5 : cn.toInt ≤ 8) (hy6 : 0 ≤ de.toInt) (hy7 : de.toInt ≤ 24) (hy8 : 0 ≤ hu.toInt) (hy9 : hu.toInt ≤ 9) (hy10 : 4 ≤ sz.toInt) (hy11 : sz.toInt ≤ 40) (hy12 : 0 ≤ at_.toInt) (hy13 : at_.toInt ≤ 40) (hy14 : 1 ≤ gp.toInt) (hy15 : gp.toInt ≤ 9) (hy16 : at_.toInt ≤ sz.toInt) (hp_fl : zRg fl (0) 1) (hp_fs : zRg fs (0) 9) : Met l yX7_closed wsX7_closed ({ frames := 4, cells := 0, slots := 0, locals := 84 }) (va_Pc [.ref x0] (zR D (zKT cI cJ cZ cP cS) po [(x0, .inr (7, [.ref xs, .ref j0, .ref k0, .ref w0, .ref rd, .ref mv, .ref xr, .int im, .int lf])), (j0, .inr (0, [.ref z0, .ref jp, .ref jc, .int cn, .int de, .int tr, .int se, .int hu, .int sd])), (z0, .inr (6, [.ref zl, .ref zs, .int sz, .int at_, .int gp])), (zl, .inl (cZ, 40, .inl fl)), (zs, .inl (cI, 40, .inl fs))])) (vp_Si (fun r => (r.toInt = zRu fl fs gp.toInt sz.toInt (sz.toInt - at_.toInt).toNat at_.toInt))) 0 0 (fun _ => False) := by
  refine Met.ofW (cc := cX7_closed) (maxL := 1) (ret := (some .int)) (by decide) rfl ?_
  intro p e s m args below meth c s₁ B hml hv
  obtain ⟨rfl, hP, hK, hN, hZ⟩ := hv
  have hx := B.exec
  have hb := B.bytes
  have hr := B.returns
  have hts := atoms_spec (ws := wsX7_closed) B.pre
  have hown : s.vm.findClass RX7 = some m.cls := findClass_of_methodNamed B.named
  have hlocks := B.notSynchronized
  have hl := lv_entry ([.ref x0]) (n := 1) (Nat.le_of_ble_eq_true rfl)
  rw [lg_entry_eq]
  generalize (lg_sl ([.ref x0]) ++ List.replicate (1 - (lg_sl ([.ref x0])).length) Slot.unset).toArray = ls at hl ⊢
  replace hl : lv_has ls 1 [(0, .ref x0)] := hl
  refine lv_aload_n hx hb dX7_closed_0 rfl (lv_at hl 0 rfl) ?_
  refine va_get (D := D) (ci := 7) (v := .ref j0) (C := RX7) (T := TX7) (N := 9) hx hb hts hi_X7_closed_7 hown hK hP 0 rfl rfl 1 (by decide) (hts (.fieldLink RX7 18 "TheLiningsInIt" "now" "LTheLiningsInIt$Jacket;") (List.mem_of_getElem? (i := 1) rfl)) (fun _ h9 => h9) rfl dX7_closed_1 ?_
  refine va_get (D := D) (ci := 0) (v := .ref z0) (C := RX0) (T := TX0) (N := 9) hx hb hts hi_X7_closed_0 hown hK hP 1 rfl rfl 0 (by decide) (hts (.fieldLink RX7 140 "TheLiningsInIt$Jacket" "zip" "LTheLiningsInIt$Zip;") (List.mem_of_getElem? (i := 2) rfl)) (fun _ h9 => h9) rfl dX7_closed_4 ?_
  refine zc_V (As := []) (rest := []) ⟨hx, hb, hml, hown, hts⟩ (c_F_Zip_runsTo l D cI cJ cZ cP cS po z0 zl zs (sz) (at_) (gp) fl fs hy10 hy11 hy12 hy13 hy14 hy15 (by omega) hp_fl hp_fs) (cwV 0 hts gX7_closed_X6_runsTo rfl rfl rfl ⟨rfl, dh_X6_runsTo⟩ ⟨Nat.le_of_ble_eq_true rfl, Nat.le_of_ble_eq_true rfl⟩) hK hN hZ hP (hP.sub [2, 3, 4] rfl) (va_recv (q := (RX6, TX6, 5)) hK hP (ci := 6) (q0 := 2) rfl rfl) rfl hl.1 rfl (Nat.le_of_ble_eq_true rfl) dX7_closed_7 ⟨Nat.le_of_ble_eq_true rfl, Nat.le_of_ble_eq_true rfl⟩ (fun r_1 hr_1 => ?_)
  obtain ⟨g_2, g_3, hsr_1_0⟩ := hr_1
  exact W.iret (v := r_1) hx hb hr (fun t ht hW => ⟨r_1, rfl, (show (r_1 : Int32).toInt = zRu fl fs gp.toInt sz.toInt (sz.toInt - at_.toInt).toNat at_.toInt from by exact hsr_1_0), ht⟩) (fun q hq => by cases hq) dX7_closed_10
set_option maxHeartbeats 4000000 in
set_option maxRecDepth 100000 in
theorem c_F_X_pulls (l : Launch) (D : va_G) (cI cJ cZ cP cS : ClassId) (po : zPool) (x0 xs j0 k0 w0 rd mv xr : Nat) (im lf : Int32) (fr : Nat → Int32) (j0 jp jc z0 zl zs : Nat) (cn de tr se hu sd : Int32) (fp : Nat → Option Nat) (kf af tf : Nat → Int32) (p_ : Int32) (hy0 : 0 ≤ im.toInt) (hy1 : im.toInt ≤ 1) (hy2 : (-1) ≤ lf.toInt) (hy3 : lf.toInt ≤ 160) (hy4 : 0 ≤ cn.toInt) (hy5 : cn.toInt ≤ 8) (hy6 : 0 ≤ de.toInt) (hy7 : de.toInt ≤ 24) (hy8 : 0 ≤ hu.toInt) (hy9 : hu.toInt ≤ 9) (hjp : zJP po fp cn kf af tf) (hy11 : 0 ≤ se.toInt) (hy12 : se.toInt ≤ 300) (hpz : Nat) : Met l yX7_pulls wsX7_pulls ({ frames := 3, cells := 0, slots := 0, locals := 66 }) (va_Pc [.ref x0, .int p_] (zW D (zKT cI cJ cZ cP cS) po [(x0, .inr (7, [.ref xs, .ref j0, .ref k0, .ref w0, .ref rd, .ref mv, .ref xr, .int im, .int lf])), (xr, .inl (cI, 8, .inl fr)), (j0, .inr (0, [.ref z0, .ref jp, .ref jc, .int cn, .int de, .int tr, .int se, .int hu, .int sd])), (jp, .inl (cP, 8, .inr (.inr (.inr (.inr fp)))))] hpz)) (va_Qi (fun (r : Int32) (u : (Int32) × (Int32) × (Int32) × (Int32) × (Nat → Int32)) => (0 ≤ u.1.toInt ∧ u.1.toInt ≤ 24) ∧ (((p_.toInt < 0 ∨ cn.toInt ≤ p_.toInt) ∧ r.toInt = -1 ∧ u.1 = de ∧ u.2.2.1 = se ∧ u.2.1 = tr ∧ u.2.2.2.1 = sd) ∨ ((0 ≤ p_.toInt ∧ p_.toInt < cn.toInt) ∧ ((¬ (1 ≤ de.toInt ∧ (tf p_.toNatClampNeg).toInt ≤ se.toInt) ∧ r.toInt = -6 ∧ u.1 = de ∧ u.2.2.1 = se ∧ u.2.1 = tr ∧ u.2.2.2.1 = sd) ∨ ((1 ≤ de.toInt ∧ (tf p_.toNatClampNeg).toInt ≤ se.toInt) ∧ zP1 (kf p_.toNatClampNeg).toInt (af p_.toNatClampNeg).toInt (tf p_.toNatClampNeg).toInt hu.toInt (de.toInt, se.toInt, tr, sd) = (u.1.toInt, u.2.2.1.toInt, u.2.1, u.2.2.2.1) ∧ r.toInt = u.1.toInt)))) ∧ (True)) (zB D [(x0, .inr (7, [.ref xs, .ref j0, .ref k0, .ref w0, .ref rd, .ref mv, .ref xr, .int im, .int lf])), (xr, .inl (cI, 8, .inl fr)), (j0, .inr (0, [.ref z0, .ref jp, .ref jc, .int cn, .int de, .int tr, .int se, .int hu, .int sd])), (jp, .inl (cP, 8, .inr (.inr (.inr (.inr fp)))))] hpz (fun (u : (Int32) × (Int32) × (Int32) × (Int32) × (Nat → Int32)) => [(x0, .inr (7, [.ref xs, .ref j0, .ref k0, .ref w0, .ref rd, .ref mv, .ref xr, .int im, .int lf])), (xr, .inl (cI, 8, .inl u.2.2.2.2)), (j0, .inr (0, [.ref z0, .ref jp, .ref jc, .int cn, .int u.1, .int u.2.1, .int u.2.2.1, .int hu, .int u.2.2.2.1])), (jp, .inl (cP, 8, .inr (.inr (.inr (.inr fp)))))])) (va_A [(x0, .inr (7, [.ref xs, .ref j0, .ref k0, .ref w0, .ref rd, .ref mv, .ref xr, .int im, .int lf])), (xr, .inl (cI, 8, .inl fr)), (j0, .inr (0, [.ref z0, .ref jp, .ref jc, .int cn, .int de, .int tr, .int se, .int hu, .int sd])), (jp, .inl (cP, 8, .inr (.inr (.inr (.inr fp)))))] hpz)) 0 0 (va_A [(x0, .inr (7, [.ref xs, .ref j0, .ref k0, .ref w0, .ref rd, .ref mv, .ref xr, .int im, .int lf])), (xr, .inl (cI, 8, .inl fr)), (j0, .inr (0, [.ref z0, .ref jp, .ref jc, .int cn, .int de, .int tr, .int se, .int hu, .int sd])), (jp, .inl (cP, 8, .inr (.inr (.inr (.inr fp)))))] hpz) := by
  refine Met.ofW (cc := cX7_pulls) (maxL := 3) (ret := (some .int)) (by decide) rfl ?_
  intro p e s m args below meth c s₁ B hml hv
  obtain ⟨rfl, hsz, hP, hK, hD0, hN, hZ⟩ := hv
  have hx := B.exec
  have hb := B.bytes
  have hr := B.returns
  have hts := atoms_spec (ws := wsX7_pulls) B.pre
  have hown : s.vm.findClass RX7 = some m.cls := findClass_of_methodNamed B.named
  have hlocks := B.notSynchronized
  subst hsz
  have hD := hD0.self (sz := s.heap.size)
  have hA := zA_of hD
  have hl := lv_entry ([.ref x0, .int p_]) (n := 3) (Nat.le_of_ble_eq_true rfl)
  rw [lg_entry_eq]
  generalize (lg_sl ([.ref x0, .int p_]) ++ List.replicate (3 - (lg_sl ([.ref x0, .int p_])).length) Slot.unset).toArray = ls at hl ⊢
  replace hl : lv_has ls 3 [(0, .ref x0), (1, .int p_)] := hl
  refine zw_begin hP hD (fun H locs hP1 hS => ?_)
  clear hP
  have hP := hP1
  clear hP1
  refine lv_aload_n hx hb dX7_pulls_0 rfl (lv_at hl 0 rfl) ?_
  refine va_get (D := D) (ci := 7) (v := .ref j0) (C := RX7) (T := TX7) (N := 9) hx hb hts hi_X7_pulls_7 hown hK hP 0 rfl rfl 1 (by decide) (hts (.fieldLink RX7 18 "TheLiningsInIt" "now" "LTheLiningsInIt$Jacket;") (List.mem_of_getElem? (i := 1) rfl)) (fun _ h9 => h9) rfl dX7_pulls_1 ?_
  refine lv_iload_n hx hb dX7_pulls_4 rfl (lv_at hl 1 rfl) ?_
  refine zc_Vq (As := [.int p_]) (rest := []) ⟨hx, hb, hml, hown, hts⟩ (c_F_J_pullAt l D cI cJ cZ cP cS po j0 jp jc z0 0 0 (cn) (de) (tr) (se) (hu) (sd) fp kf af tf (p_) hy4 hy5 hy6 hy7 hy8 hy9 hjp) (cwV 1 hts gX7_pulls_X0_pullAt rfl rfl rfl ⟨rfl, dh_X0_pullAt⟩ ⟨Nat.le_of_ble_eq_true rfl, Nat.le_of_ble_eq_true rfl⟩) hK hN (hZ.kept hS) hP (hP.sub [2, 3] rfl) (va_recv (q := (RX0, TX0, 9)) hK hP (ci := 0) (q0 := 2) rfl rfl) rfl hl.1 rfl (Nat.le_of_ble_eq_true rfl) dX7_pulls_5 ⟨Nat.le_of_ble_eq_true rfl, Nat.le_of_ble_eq_true rfl⟩ (fun r_1 hr_1 => ?_)
  rcases hr_1 with ⟨rfl, g_2⟩ | ⟨rfl, g_3, g_4⟩ | ⟨⟨u_6, kiu_6, au_6, tu_6, rfl, huu_6, hkku_6⟩, g_5⟩
  · refine lv_astore_nN (lv' := [(2, .null), (0, .ref x0), (1, .int p_)]) hx hb dX7_pulls_8 rfl hl (by decide) rfl (fun ls hl => ?_)
    refine lv_aload_nN hx hb dX7_pulls_9 rfl (lv_at hl 0 rfl) ?_
    refine lv_ifnonnullN hx hb dX7_pulls_10 ?_
    refine lv_aload_n hx hb dX7_pulls_13 rfl (lv_at hl 1 rfl) ?_
    refine lv_iconst (v := 1) hx hb dX7_pulls_14 (by decide) ?_
    skip
    refine zw_V (As := [.int 1]) (rest := []) (wr := [(j0, .inr (0, [.ref z0, .ref jp, .ref jc, .int cn, .int de, .int tr, .int se, .int hu, .int sd])), (jp, .inl (cP, 8, .inr (.inr (.inr (.inr fp)))))]) ⟨hx, hb, hml, hown, hts⟩ (c_X_refuse_1 l D cI cJ cZ cP cS po x0 xs j0 k0 w0 rd mv xr (im) (lf) fr hy0 hy1 hy2 hy3 H.size) (cwV 1 hts gX7_pulls_X7_refuse rfl rfl rfl ⟨rfl, dh_X7_refuse⟩ ⟨Nat.le_of_ble_eq_true rfl, Nat.le_of_ble_eq_true rfl⟩) hK hN (hZ.kept hS) hP hD hS hA [0, 1] [2, 3] rfl rfl (by decide) (by decide) (by decide) (va_recv (q := (RX7, TX7, 9)) hK hP (ci := 7) (q0 := 0) rfl rfl) rfl hl.1 rfl (Nat.le_of_ble_eq_true rfl) dX7_pulls_15 ⟨Nat.le_of_ble_eq_true rfl, Nat.le_of_ble_eq_true rfl⟩ (fun r_7 u_8 H locs hr_7 hP hD hS => ?_)
    obtain ⟨q_9, rfl⟩ : ∃ z, z = u_8 := ⟨_, rfl⟩
    have h9R := zRe (ws' := [(j0, .inr (0, [.ref z0, .ref jp, .ref jc, .int cn, .int de, .int tr, .int se, .int hu, .int sd])), (jp, .inl (cP, 8, .inr (.inr (.inr (.inr fp))))), (x0, .inr (7, [.ref xs, .ref j0, .ref k0, .ref w0, .ref rd, .ref mv, .ref xr, .int im, .int lf])), (xr, .inl (cI, 8, .inl q_9))]) hP hD rfl
    clear hP hD
    obtain ⟨hP, hD⟩ := h9R
    obtain rfl := hr_7
    exact W.iret (v := (-1)) hx hb hr (fun t ht hW => ⟨⟨(-1), (de, tr, se, sd, q_9), rfl, ⟨(show 0 ≤ de.toInt ∧ de.toInt ≤ 24 from ⟨hy6, hy7⟩), (show ((p_.toInt < 0 ∨ cn.toInt ≤ p_.toInt) ∧ ((-1) : Int32).toInt = -1 ∧ de = de ∧ se = se ∧ tr = tr ∧ sd = sd) ∨ ((0 ≤ p_.toInt ∧ p_.toInt < cn.toInt) ∧ ((¬ (1 ≤ de.toInt ∧ (tf p_.toNatClampNeg).toInt ≤ se.toInt) ∧ ((-1) : Int32).toInt = -6 ∧ de = de ∧ se = se ∧ tr = tr ∧ sd = sd) ∨ ((1 ≤ de.toInt ∧ (tf p_.toNatClampNeg).toInt ≤ se.toInt) ∧ zP1 (kf p_.toNatClampNeg).toInt (af p_.toNatClampNeg).toInt (tf p_.toNatClampNeg).toInt hu.toInt (de.toInt, se.toInt, tr, sd) = (de.toInt, se.toInt, tr, sd) ∧ ((-1) : Int32).toInt = de.toInt))) from by (have k9 : ((-1) : Int32).toInt = -1 := (by decide); exact Or.inl ⟨by omega, by omega, rfl, rfl, rfl, rfl⟩)), trivial⟩, zRet ht hP hD [2, 3, 0, 1] (by decide) rfl⟩, hS.F ht⟩) hS.2.2 dX7_pulls_18
  · refine lv_astore_nN (lv' := [(2, .null), (0, .ref x0), (1, .int p_)]) hx hb dX7_pulls_8 rfl hl (by decide) rfl (fun ls hl => ?_)
    refine lv_aload_nN hx hb dX7_pulls_9 rfl (lv_at hl 0 rfl) ?_
    refine lv_ifnonnullN hx hb dX7_pulls_10 ?_
    refine lv_aload_n hx hb dX7_pulls_13 rfl (lv_at hl 1 rfl) ?_
    refine lv_iconst (v := 1) hx hb dX7_pulls_14 (by decide) ?_
    skip
    refine zw_V (As := [.int 1]) (rest := []) (wr := [(j0, .inr (0, [.ref z0, .ref jp, .ref jc, .int cn, .int de, .int tr, .int se, .int hu, .int sd])), (jp, .inl (cP, 8, .inr (.inr (.inr (.inr fp)))))]) ⟨hx, hb, hml, hown, hts⟩ (c_X_refuse_1 l D cI cJ cZ cP cS po x0 xs j0 k0 w0 rd mv xr (im) (lf) fr hy0 hy1 hy2 hy3 H.size) (cwV 1 hts gX7_pulls_X7_refuse rfl rfl rfl ⟨rfl, dh_X7_refuse⟩ ⟨Nat.le_of_ble_eq_true rfl, Nat.le_of_ble_eq_true rfl⟩) hK hN (hZ.kept hS) hP hD hS hA [0, 1] [2, 3] rfl rfl (by decide) (by decide) (by decide) (va_recv (q := (RX7, TX7, 9)) hK hP (ci := 7) (q0 := 0) rfl rfl) rfl hl.1 rfl (Nat.le_of_ble_eq_true rfl) dX7_pulls_15 ⟨Nat.le_of_ble_eq_true rfl, Nat.le_of_ble_eq_true rfl⟩ (fun r_10 u_11 H locs hr_10 hP hD hS => ?_)
    obtain ⟨q_12, rfl⟩ : ∃ z, z = u_11 := ⟨_, rfl⟩
    have h9R := zRe (ws' := [(j0, .inr (0, [.ref z0, .ref jp, .ref jc, .int cn, .int de, .int tr, .int se, .int hu, .int sd])), (jp, .inl (cP, 8, .inr (.inr (.inr (.inr fp))))), (x0, .inr (7, [.ref xs, .ref j0, .ref k0, .ref w0, .ref rd, .ref mv, .ref xr, .int im, .int lf])), (xr, .inl (cI, 8, .inl q_12))]) hP hD rfl
    clear hP hD
    obtain ⟨hP, hD⟩ := h9R
    obtain rfl := hr_10
    exact W.iret (v := (-1)) hx hb hr (fun t ht hW => ⟨⟨(-1), (de, tr, se, sd, q_12), rfl, ⟨(show 0 ≤ de.toInt ∧ de.toInt ≤ 24 from ⟨hy6, hy7⟩), (show ((p_.toInt < 0 ∨ cn.toInt ≤ p_.toInt) ∧ ((-1) : Int32).toInt = -1 ∧ de = de ∧ se = se ∧ tr = tr ∧ sd = sd) ∨ ((0 ≤ p_.toInt ∧ p_.toInt < cn.toInt) ∧ ((¬ (1 ≤ de.toInt ∧ (tf p_.toNatClampNeg).toInt ≤ se.toInt) ∧ ((-1) : Int32).toInt = -6 ∧ de = de ∧ se = se ∧ tr = tr ∧ sd = sd) ∨ ((1 ≤ de.toInt ∧ (tf p_.toNatClampNeg).toInt ≤ se.toInt) ∧ zP1 (kf p_.toNatClampNeg).toInt (af p_.toNatClampNeg).toInt (tf p_.toNatClampNeg).toInt hu.toInt (de.toInt, se.toInt, tr, sd) = (de.toInt, se.toInt, tr, sd) ∧ ((-1) : Int32).toInt = de.toInt))) from by (have k9 : ((-1) : Int32).toInt = -1 := (by decide); exact Or.inl ⟨by omega, by omega, rfl, rfl, rfl, rfl⟩)), trivial⟩, zRet ht hP hD [2, 3, 0, 1] (by decide) rfl⟩, hS.F ht⟩) hS.2.2 dX7_pulls_18
  · refine W.eq (g2 := F0 m 8 ls (.ref u_6 :: [])) rfl ?_
    obtain ⟨hku_6, hau_6, htu_6⟩ := zPu_pr (hZ.kept hS) huu_6
    refine lv_astore_n (lv' := [(2, .ref u_6), (0, .ref x0), (1, .int p_)]) hx hb dX7_pulls_8 rfl hl (by decide) rfl (fun ls hl => ?_)
    refine lv_aload_n hx hb dX7_pulls_9 rfl (lv_at hl 0 rfl) ?_
    refine lv_ifnonnull (tgt := 19) hx hb dX7_pulls_10 (by decide) ?_
    refine lv_aload_n hx hb dX7_pulls_19 rfl (lv_at hl 1 rfl) ?_
    refine va_get (D := D) (ci := 7) (v := .ref j0) (C := RX7) (T := TX7) (N := 9) hx hb hts hi_X7_pulls_7 hown hK hP 0 rfl rfl 1 (by decide) (hts (.fieldLink RX7 18 "TheLiningsInIt" "now" "LTheLiningsInIt$Jacket;") (List.mem_of_getElem? (i := 1) rfl)) (fun _ h9 => h9) rfl dX7_pulls_20 ?_
    refine lv_aload_n hx hb dX7_pulls_23 rfl (lv_at hl 0 rfl) ?_
    refine zc_V (As := [.ref u_6]) (rest := []) ⟨hx, hb, hml, hown, hts⟩ (c_J_mayBe l D cI cJ cZ cP cS po j0 jp jc z0 0 0 (cn) (de) (tr) (se) (hu) (sd) u_6 (kiu_6) (au_6) (tu_6) huu_6 ⟨by omega, by omega, by omega, by omega⟩ hy4 hy5 hy6 hy7 hy8 hy9) (cwV 1 hts gX7_pulls_X0_mayBe rfl rfl rfl ⟨rfl, dh_X0_mayBe⟩ ⟨Nat.le_of_ble_eq_true rfl, Nat.le_of_ble_eq_true rfl⟩) hK hN (hZ.kept hS) hP (hP.sub [2] rfl) (va_recv (q := (RX0, TX0, 9)) hK hP (ci := 0) (q0 := 2) rfl rfl) rfl hl.1 rfl (Nat.le_of_ble_eq_true rfl) dX7_pulls_24 ⟨Nat.le_of_ble_eq_true rfl, Nat.le_of_ble_eq_true rfl⟩ (fun r_13 hr_13 => ?_)
    rcases hr_13 with ⟨rfl, g_14⟩ | ⟨rfl, g_15, g_16⟩ | ⟨rfl, g_17, g_18⟩
    · refine lv_if_ne (tgt := 37) hx hb dX7_pulls_27 (by decide) (fun c_19 => ?_) (fun c_19 => ?_)
      · exact absurd c_19 (by decide)
      · refine lv_aload_n hx hb dX7_pulls_30 rfl (lv_at hl 1 rfl) ?_
        refine lv_bipush (v := 6) hx hb dX7_pulls_31 (by decide) ?_
        skip
        refine zw_V (As := [.int 6]) (rest := []) (wr := [(j0, .inr (0, [.ref z0, .ref jp, .ref jc, .int cn, .int de, .int tr, .int se, .int hu, .int sd])), (jp, .inl (cP, 8, .inr (.inr (.inr (.inr fp)))))]) ⟨hx, hb, hml, hown, hts⟩ (c_X_refuse_6 l D cI cJ cZ cP cS po x0 xs j0 k0 w0 rd mv xr (im) (lf) fr hy0 hy1 hy2 hy3 H.size) (cwV 1 hts gX7_pulls_X7_refuse rfl rfl rfl ⟨rfl, dh_X7_refuse⟩ ⟨Nat.le_of_ble_eq_true rfl, Nat.le_of_ble_eq_true rfl⟩) hK hN (hZ.kept hS) hP hD hS hA [0, 1] [2, 3] rfl rfl (by decide) (by decide) (by decide) (va_recv (q := (RX7, TX7, 9)) hK hP (ci := 7) (q0 := 0) rfl rfl) rfl hl.1 rfl (Nat.le_of_ble_eq_true rfl) dX7_pulls_33 ⟨Nat.le_of_ble_eq_true rfl, Nat.le_of_ble_eq_true rfl⟩ (fun r_20 u_21 H locs hr_20 hP hD hS => ?_)
        obtain ⟨q_22, rfl⟩ : ∃ z, z = u_21 := ⟨_, rfl⟩
        have h9R := zRe (ws' := [(j0, .inr (0, [.ref z0, .ref jp, .ref jc, .int cn, .int de, .int tr, .int se, .int hu, .int sd])), (jp, .inl (cP, 8, .inr (.inr (.inr (.inr fp))))), (x0, .inr (7, [.ref xs, .ref j0, .ref k0, .ref w0, .ref rd, .ref mv, .ref xr, .int im, .int lf])), (xr, .inl (cI, 8, .inl q_22))]) hP hD rfl
        clear hP hD
        obtain ⟨hP, hD⟩ := h9R
        obtain rfl := hr_20
        exact W.iret (v := (-6)) hx hb hr (fun t ht hW => ⟨⟨(-6), (de, tr, se, sd, q_22), rfl, ⟨(show 0 ≤ de.toInt ∧ de.toInt ≤ 24 from ⟨hy6, hy7⟩), (show ((p_.toInt < 0 ∨ cn.toInt ≤ p_.toInt) ∧ ((-6) : Int32).toInt = -1 ∧ de = de ∧ se = se ∧ tr = tr ∧ sd = sd) ∨ ((0 ≤ p_.toInt ∧ p_.toInt < cn.toInt) ∧ ((¬ (1 ≤ de.toInt ∧ (tf p_.toNatClampNeg).toInt ≤ se.toInt) ∧ ((-6) : Int32).toInt = -6 ∧ de = de ∧ se = se ∧ tr = tr ∧ sd = sd) ∨ ((1 ≤ de.toInt ∧ (tf p_.toNatClampNeg).toInt ≤ se.toInt) ∧ zP1 (kf p_.toNatClampNeg).toInt (af p_.toNatClampNeg).toInt (tf p_.toNatClampNeg).toInt hu.toInt (de.toInt, se.toInt, tr, sd) = (de.toInt, se.toInt, tr, sd) ∧ ((-6) : Int32).toInt = de.toInt))) from by (have k9 : ((-6) : Int32).toInt = -6 := (by decide); obtain ⟨⟨y1, y2, y3⟩, y4, y5⟩ := hkku_6; exact Or.inr ⟨by omega, Or.inl ⟨fun z => by (have z2 := z.2; rw [← y3] at z2; omega), by omega, rfl, rfl, rfl, rfl⟩⟩)), trivial⟩, zRet ht hP hD [2, 3, 0, 1] (by decide) rfl⟩, hS.F ht⟩) hS.2.2 dX7_pulls_36
    · refine lv_if_ne (tgt := 37) hx hb dX7_pulls_27 (by decide) (fun c_23 => ?_) (fun c_23 => ?_)
      · exact absurd c_23 (by decide)
      · refine lv_aload_n hx hb dX7_pulls_30 rfl (lv_at hl 1 rfl) ?_
        refine lv_bipush (v := 6) hx hb dX7_pulls_31 (by decide) ?_
        skip
        refine zw_V (As := [.int 6]) (rest := []) (wr := [(j0, .inr (0, [.ref z0, .ref jp, .ref jc, .int cn, .int de, .int tr, .int se, .int hu, .int sd])), (jp, .inl (cP, 8, .inr (.inr (.inr (.inr fp)))))]) ⟨hx, hb, hml, hown, hts⟩ (c_X_refuse_6 l D cI cJ cZ cP cS po x0 xs j0 k0 w0 rd mv xr (im) (lf) fr hy0 hy1 hy2 hy3 H.size) (cwV 1 hts gX7_pulls_X7_refuse rfl rfl rfl ⟨rfl, dh_X7_refuse⟩ ⟨Nat.le_of_ble_eq_true rfl, Nat.le_of_ble_eq_true rfl⟩) hK hN (hZ.kept hS) hP hD hS hA [0, 1] [2, 3] rfl rfl (by decide) (by decide) (by decide) (va_recv (q := (RX7, TX7, 9)) hK hP (ci := 7) (q0 := 0) rfl rfl) rfl hl.1 rfl (Nat.le_of_ble_eq_true rfl) dX7_pulls_33 ⟨Nat.le_of_ble_eq_true rfl, Nat.le_of_ble_eq_true rfl⟩ (fun r_24 u_25 H locs hr_24 hP hD hS => ?_)
        obtain ⟨q_26, rfl⟩ : ∃ z, z = u_25 := ⟨_, rfl⟩
        have h9R := zRe (ws' := [(j0, .inr (0, [.ref z0, .ref jp, .ref jc, .int cn, .int de, .int tr, .int se, .int hu, .int sd])), (jp, .inl (cP, 8, .inr (.inr (.inr (.inr fp))))), (x0, .inr (7, [.ref xs, .ref j0, .ref k0, .ref w0, .ref rd, .ref mv, .ref xr, .int im, .int lf])), (xr, .inl (cI, 8, .inl q_26))]) hP hD rfl
        clear hP hD
        obtain ⟨hP, hD⟩ := h9R
        obtain rfl := hr_24
        exact W.iret (v := (-6)) hx hb hr (fun t ht hW => ⟨⟨(-6), (de, tr, se, sd, q_26), rfl, ⟨(show 0 ≤ de.toInt ∧ de.toInt ≤ 24 from ⟨hy6, hy7⟩), (show ((p_.toInt < 0 ∨ cn.toInt ≤ p_.toInt) ∧ ((-6) : Int32).toInt = -1 ∧ de = de ∧ se = se ∧ tr = tr ∧ sd = sd) ∨ ((0 ≤ p_.toInt ∧ p_.toInt < cn.toInt) ∧ ((¬ (1 ≤ de.toInt ∧ (tf p_.toNatClampNeg).toInt ≤ se.toInt) ∧ ((-6) : Int32).toInt = -6 ∧ de = de ∧ se = se ∧ tr = tr ∧ sd = sd) ∨ ((1 ≤ de.toInt ∧ (tf p_.toNatClampNeg).toInt ≤ se.toInt) ∧ zP1 (kf p_.toNatClampNeg).toInt (af p_.toNatClampNeg).toInt (tf p_.toNatClampNeg).toInt hu.toInt (de.toInt, se.toInt, tr, sd) = (de.toInt, se.toInt, tr, sd) ∧ ((-6) : Int32).toInt = de.toInt))) from by (have k9 : ((-6) : Int32).toInt = -6 := (by decide); obtain ⟨⟨y1, y2, y3⟩, y4, y5⟩ := hkku_6; exact Or.inr ⟨by omega, Or.inl ⟨fun z => by (have z2 := z.2; rw [← y3] at z2; omega), by omega, rfl, rfl, rfl, rfl⟩⟩)), trivial⟩, zRet ht hP hD [2, 3, 0, 1] (by decide) rfl⟩, hS.F ht⟩) hS.2.2 dX7_pulls_36
    · refine lv_if_ne (tgt := 37) hx hb dX7_pulls_27 (by decide) (fun c_27 => ?_) (fun c_27 => ?_)
      · refine lv_aload_n hx hb dX7_pulls_37 rfl (lv_at hl 1 rfl) ?_
        refine va_get (D := D) (ci := 7) (v := .ref j0) (C := RX7) (T := TX7) (N := 9) hx hb hts hi_X7_pulls_7 hown hK hP 0 rfl rfl 1 (by decide) (hts (.fieldLink RX7 18 "TheLiningsInIt" "now" "LTheLiningsInIt$Jacket;") (List.mem_of_getElem? (i := 1) rfl)) (fun _ h9 => h9) rfl dX7_pulls_38 ?_
        refine lv_aload_n hx hb dX7_pulls_41 rfl (lv_at hl 0 rfl) ?_
        skip
        refine zw_Vv (As := [.ref u_6]) (rest := []) (wr := [(x0, .inr (7, [.ref xs, .ref j0, .ref k0, .ref w0, .ref rd, .ref mv, .ref xr, .int im, .int lf])), (xr, .inl (cI, 8, .inl fr)), (jp, .inl (cP, 8, .inr (.inr (.inr (.inr fp)))))]) ⟨hx, hb, hml, hown, hts⟩ (c_F_J_pullInTruth l D cI cJ cZ cP cS po j0 jp jc z0 0 0 (cn) (de) (tr) (se) (hu) (sd) u_6 (kiu_6) (au_6) (tu_6) huu_6 ⟨by omega, by omega, by omega, by omega⟩ hy4 hy5 hy6 hy7 hy8 hy9 hy11 hy12 (by omega) H.size) (cwV 1 hts gX7_pulls_X0_pullInTruth rfl rfl rfl ⟨rfl, dh_X0_pullInTruth⟩ ⟨Nat.le_of_ble_eq_true rfl, Nat.le_of_ble_eq_true rfl⟩) hK hN (hZ.kept hS) hP hD hS hA [2] [0, 1, 3] rfl rfl (by decide) (by decide) (by decide) (va_recv (q := (RX0, TX0, 9)) hK hP (ci := 0) (q0 := 2) rfl rfl) rfl hl.1 rfl (Nat.le_of_ble_eq_true rfl) dX7_pulls_42 ⟨Nat.le_of_ble_eq_true rfl, Nat.le_of_ble_eq_true rfl⟩ (fun u_29 H locs hr_28 hP hD hS => ?_)
        obtain ⟨q_30, q_31, q_32, q_33⟩ := u_29
        try dsimp only at hr_28
        obtain ⟨hbq_30, hsr_28_0, hsr_28_1, hr_28⟩ := hr_28
        have h9R := zRe (ws' := [(x0, .inr (7, [.ref xs, .ref j0, .ref k0, .ref w0, .ref rd, .ref mv, .ref xr, .int im, .int lf])), (xr, .inl (cI, 8, .inl fr)), (jp, .inl (cP, 8, .inr (.inr (.inr (.inr fp))))), (j0, .inr (0, [.ref z0, .ref jp, .ref jc, .int cn, .int q_30, .int q_31, .int q_32, .int hu, .int q_33]))]) hP hD rfl
        clear hP hD
        obtain ⟨hP, hD⟩ := h9R
        refine lv_aload_n hx hb dX7_pulls_45 rfl (lv_at hl 1 rfl) ?_
        refine va_get (D := D) (ci := 7) (v := .ref j0) (C := RX7) (T := TX7) (N := 9) hx hb hts hi_X7_pulls_7 hown hK hP 0 rfl rfl 1 (by decide) (hts (.fieldLink RX7 18 "TheLiningsInIt" "now" "LTheLiningsInIt$Jacket;") (List.mem_of_getElem? (i := 1) rfl)) (fun _ h9 => h9) rfl dX7_pulls_46 ?_
        refine va_get (D := D) (ci := 0) (v := .int q_30) (C := RX0) (T := TX0) (N := 9) hx hb hts hi_X7_pulls_0 hown hK hP 3 rfl rfl 4 (by decide) (hts (.fieldLink RX7 199 "TheLiningsInIt$Jacket" "depth" "I") (List.mem_of_getElem? (i := 2) rfl)) (fun _ h9 => h9) rfl dX7_pulls_49 ?_
        exact W.iret (v := q_30) hx hb hr (fun t ht hW => ⟨⟨q_30, (q_30, q_31, q_32, q_33, fr), rfl, ⟨(show 0 ≤ q_30.toInt ∧ q_30.toInt ≤ 24 from hbq_30), (show ((p_.toInt < 0 ∨ cn.toInt ≤ p_.toInt) ∧ (q_30 : Int32).toInt = -1 ∧ q_30 = de ∧ q_32 = se ∧ q_31 = tr ∧ q_33 = sd) ∨ ((0 ≤ p_.toInt ∧ p_.toInt < cn.toInt) ∧ ((¬ (1 ≤ de.toInt ∧ (tf p_.toNatClampNeg).toInt ≤ se.toInt) ∧ (q_30 : Int32).toInt = -6 ∧ q_30 = de ∧ q_32 = se ∧ q_31 = tr ∧ q_33 = sd) ∨ ((1 ≤ de.toInt ∧ (tf p_.toNatClampNeg).toInt ≤ se.toInt) ∧ zP1 (kf p_.toNatClampNeg).toInt (af p_.toNatClampNeg).toInt (tf p_.toNatClampNeg).toInt hu.toInt (de.toInt, se.toInt, tr, sd) = (q_30.toInt, q_32.toInt, q_31, q_33) ∧ (q_30 : Int32).toInt = q_30.toInt))) from by (obtain ⟨⟨y1, y2, y3⟩, y4, y5⟩ := hkku_6; refine Or.inr ⟨by omega, Or.inr ⟨⟨by omega, by rw [← y3]; omega⟩, ?_, ?_⟩⟩; (rw [← y1, ← y2, ← y3]; exact hsr_28_0); first | rfl | omega)), trivial⟩, zRet ht hP hD [0, 1, 3, 2] (by decide) rfl⟩, hS.F ht⟩) hS.2.2 dX7_pulls_52
      · exact absurd c_27 (by decide)
set_option maxHeartbeats 4000000 in
set_option maxRecDepth 100000 in
theorem c_F_X_close (l : Launch) (D : va_G) (cI cJ cZ cP cS : ClassId) (po : zPool) (x0 xs j0 k0 w0 rd mv xr : Nat) (im lf : Int32) (fr : Nat → Int32) (j0 jp jc z0 zl zs : Nat) (cn de tr se hu sd : Int32) (sz at_ gp : Int32) (fl fs : Nat → Int32) (hy0 : 0 ≤ im.toInt) (hy1 : im.toInt ≤ 1) (hy2 : (-1) ≤ lf.toInt) (hy3 : lf.toInt ≤ 160) (hy4 : 0 ≤ cn.toInt) (hy5 : cn.toInt ≤ 8) (hy6 : 0 ≤ de.toInt) (hy7 : de.toInt ≤ 24) (hy8 : 0 ≤ hu.toInt) (hy9 : hu.toInt ≤ 9) (hy10 : 4 ≤ sz.toInt) (hy11 : sz.toInt ≤ 40) (hy12 : 0 ≤ at_.toInt) (hy13 : at_.toInt ≤ 40) (hy14 : 1 ≤ gp.toInt) (hy15 : gp.toInt ≤ 9) (hy16 : at_.toInt ≤ sz.toInt) (hp_fl : zRg fl (0) 1) (hp_fs : zRg fs (0) 9) (hpz : Nat) : Met l yX7_close wsX7_close ({ frames := 4, cells := 0, slots := 0, locals := 84 }) (va_Pc [.ref x0] (zW D (zKT cI cJ cZ cP cS) po [(x0, .inr (7, [.ref xs, .ref j0, .ref k0, .ref w0, .ref rd, .ref mv, .ref xr, .int im, .int lf])), (xr, .inl (cI, 8, .inl fr)), (j0, .inr (0, [.ref z0, .ref jp, .ref jc, .int cn, .int de, .int tr, .int se, .int hu, .int sd])), (z0, .inr (6, [.ref zl, .ref zs, .int sz, .int at_, .int gp])), (zl, .inl (cZ, 40, .inl fl)), (zs, .inl (cI, 40, .inl fs))] hpz)) (va_Qi (fun (r : Int32) (u : (Int32) × (Int32) × (Int32) × (Nat → Int32)) => (0 ≤ u.1.toInt ∧ u.1.toInt ≤ 24) ∧ (0 ≤ u.2.2.1.toInt ∧ u.2.2.1.toInt ≤ 40) ∧ ((de.toInt ≠ 0 ∧ r.toInt = -6 ∧ u.2.2.1 = at_ ∧ u.1 = de ∧ u.2.1 = sd) ∨ (de.toInt = 0 ∧ zCz fl fs gp.toInt sz.toInt (sz.toInt - at_.toInt).toNat at_.toInt de.toInt sd = (u.2.2.1.toInt, u.1.toInt, u.2.1) ∧ r.toInt = u.2.2.1.toInt)) ∧ (True)) (zB D [(x0, .inr (7, [.ref xs, .ref j0, .ref k0, .ref w0, .ref rd, .ref mv, .ref xr, .int im, .int lf])), (xr, .inl (cI, 8, .inl fr)), (j0, .inr (0, [.ref z0, .ref jp, .ref jc, .int cn, .int de, .int tr, .int se, .int hu, .int sd])), (z0, .inr (6, [.ref zl, .ref zs, .int sz, .int at_, .int gp])), (zl, .inl (cZ, 40, .inl fl)), (zs, .inl (cI, 40, .inl fs))] hpz (fun (u : (Int32) × (Int32) × (Int32) × (Nat → Int32)) => [(x0, .inr (7, [.ref xs, .ref j0, .ref k0, .ref w0, .ref rd, .ref mv, .ref xr, .int im, .int lf])), (xr, .inl (cI, 8, .inl u.2.2.2)), (j0, .inr (0, [.ref z0, .ref jp, .ref jc, .int cn, .int u.1, .int tr, .int se, .int hu, .int u.2.1])), (z0, .inr (6, [.ref zl, .ref zs, .int sz, .int u.2.2.1, .int gp])), (zl, .inl (cZ, 40, .inl fl)), (zs, .inl (cI, 40, .inl fs))])) (va_A [(x0, .inr (7, [.ref xs, .ref j0, .ref k0, .ref w0, .ref rd, .ref mv, .ref xr, .int im, .int lf])), (xr, .inl (cI, 8, .inl fr)), (j0, .inr (0, [.ref z0, .ref jp, .ref jc, .int cn, .int de, .int tr, .int se, .int hu, .int sd])), (z0, .inr (6, [.ref zl, .ref zs, .int sz, .int at_, .int gp])), (zl, .inl (cZ, 40, .inl fl)), (zs, .inl (cI, 40, .inl fs))] hpz)) 0 0 (va_A [(x0, .inr (7, [.ref xs, .ref j0, .ref k0, .ref w0, .ref rd, .ref mv, .ref xr, .int im, .int lf])), (xr, .inl (cI, 8, .inl fr)), (j0, .inr (0, [.ref z0, .ref jp, .ref jc, .int cn, .int de, .int tr, .int se, .int hu, .int sd])), (z0, .inr (6, [.ref zl, .ref zs, .int sz, .int at_, .int gp])), (zl, .inl (cZ, 40, .inl fl)), (zs, .inl (cI, 40, .inl fs))] hpz) := by
  refine Met.ofW (cc := cX7_close) (maxL := 1) (ret := (some .int)) (by decide) rfl ?_
  intro p e s m args below meth c s₁ B hml hv
  obtain ⟨rfl, hsz, hP, hK, hD0, hN, hZ⟩ := hv
  have hx := B.exec
  have hb := B.bytes
  have hr := B.returns
  have hts := atoms_spec (ws := wsX7_close) B.pre
  have hown : s.vm.findClass RX7 = some m.cls := findClass_of_methodNamed B.named
  have hlocks := B.notSynchronized
  subst hsz
  have hD := hD0.self (sz := s.heap.size)
  have hA := zA_of hD
  have hl := lv_entry ([.ref x0]) (n := 1) (Nat.le_of_ble_eq_true rfl)
  rw [lg_entry_eq]
  generalize (lg_sl ([.ref x0]) ++ List.replicate (1 - (lg_sl ([.ref x0])).length) Slot.unset).toArray = ls at hl ⊢
  replace hl : lv_has ls 1 [(0, .ref x0)] := hl
  refine zw_begin hP hD (fun H locs hP1 hS => ?_)
  clear hP
  have hP := hP1
  clear hP1
  refine lv_aload_n hx hb dX7_close_0 rfl (lv_at hl 0 rfl) ?_
  refine va_get (D := D) (ci := 7) (v := .ref j0) (C := RX7) (T := TX7) (N := 9) hx hb hts hi_X7_close_7 hown hK hP 0 rfl rfl 1 (by decide) (hts (.fieldLink RX7 18 "TheLiningsInIt" "now" "LTheLiningsInIt$Jacket;") (List.mem_of_getElem? (i := 1) rfl)) (fun _ h9 => h9) rfl dX7_close_1 ?_
  refine va_get (D := D) (ci := 0) (v := .int de) (C := RX0) (T := TX0) (N := 9) hx hb hts hi_X7_close_0 hown hK hP 2 rfl rfl 4 (by decide) (hts (.fieldLink RX7 199 "TheLiningsInIt$Jacket" "depth" "I") (List.mem_of_getElem? (i := 2) rfl)) (fun _ h9 => h9) rfl dX7_close_4 ?_
  refine lv_if_eq (tgt := 17) hx hb dX7_close_7 (by decide) (fun c_1 => ?_) (fun c_1 => ?_)
  · have fc_1 : de.toInt = 0 := zf_eq c_1 rfl (by decide)
    refine lv_aload_n hx hb dX7_close_17 rfl (lv_at hl 0 rfl) ?_
    refine va_get (D := D) (ci := 7) (v := .ref j0) (C := RX7) (T := TX7) (N := 9) hx hb hts hi_X7_close_7 hown hK hP 0 rfl rfl 1 (by decide) (hts (.fieldLink RX7 18 "TheLiningsInIt" "now" "LTheLiningsInIt$Jacket;") (List.mem_of_getElem? (i := 1) rfl)) (fun _ h9 => h9) rfl dX7_close_18 ?_
    skip
    refine zw_Vv (As := []) (rest := []) (wr := [(x0, .inr (7, [.ref xs, .ref j0, .ref k0, .ref w0, .ref rd, .ref mv, .ref xr, .int im, .int lf])), (xr, .inl (cI, 8, .inl fr))]) ⟨hx, hb, hml, hown, hts⟩ (c_F_J_closeInTruth l D cI cJ cZ cP cS po j0 jp jc z0 zl zs (cn) (de) (tr) (se) (hu) (sd) (sz) (at_) (gp) fl fs hy4 hy5 hy6 hy7 hy8 hy9 hy10 hy11 hy12 hy13 hy14 hy15 (by omega) hp_fl hp_fs H.size) (cwV 0 hts gX7_close_X0_closeInTruth rfl rfl rfl ⟨rfl, dh_X0_closeInTruth⟩ ⟨Nat.le_of_ble_eq_true rfl, Nat.le_of_ble_eq_true rfl⟩) hK hN (hZ.kept hS) hP hD hS hA [2, 3, 4, 5] [0, 1] rfl rfl (by decide) (by decide) (by decide) (va_recv (q := (RX0, TX0, 9)) hK hP (ci := 0) (q0 := 2) rfl rfl) rfl hl.1 rfl (Nat.le_of_ble_eq_true rfl) dX7_close_21 ⟨Nat.le_of_ble_eq_true rfl, Nat.le_of_ble_eq_true rfl⟩ (fun u_3 H locs hr_2 hP hD hS => ?_)
    obtain ⟨q_4, q_5, q_6⟩ := u_3
    try dsimp only at hr_2
    obtain ⟨hbq_4, hbq_6, hsr_2_0, hsr_2_1, hr_2⟩ := hr_2
    have h9R := zRe (ws' := [(x0, .inr (7, [.ref xs, .ref j0, .ref k0, .ref w0, .ref rd, .ref mv, .ref xr, .int im, .int lf])), (xr, .inl (cI, 8, .inl fr)), (j0, .inr (0, [.ref z0, .ref jp, .ref jc, .int cn, .int q_4, .int tr, .int se, .int hu, .int q_5])), (z0, .inr (6, [.ref zl, .ref zs, .int sz, .int q_6, .int gp])), (zl, .inl (cZ, 40, .inl fl)), (zs, .inl (cI, 40, .inl fs))]) hP hD rfl
    clear hP hD
    obtain ⟨hP, hD⟩ := h9R
    refine lv_aload_n hx hb dX7_close_24 rfl (lv_at hl 0 rfl) ?_
    refine va_get (D := D) (ci := 7) (v := .ref j0) (C := RX7) (T := TX7) (N := 9) hx hb hts hi_X7_close_7 hown hK hP 0 rfl rfl 1 (by decide) (hts (.fieldLink RX7 18 "TheLiningsInIt" "now" "LTheLiningsInIt$Jacket;") (List.mem_of_getElem? (i := 1) rfl)) (fun _ h9 => h9) rfl dX7_close_25 ?_
    refine va_get (D := D) (ci := 0) (v := .ref z0) (C := RX0) (T := TX0) (N := 9) hx hb hts hi_X7_close_0 hown hK hP 2 rfl rfl 0 (by decide) (hts (.fieldLink RX7 140 "TheLiningsInIt$Jacket" "zip" "LTheLiningsInIt$Zip;") (List.mem_of_getElem? (i := 3) rfl)) (fun _ h9 => h9) rfl dX7_close_28 ?_
    refine va_get (D := D) (ci := 6) (v := .int q_6) (C := RX6) (T := TX6) (N := 5) hx hb hts hi_X7_close_6 hown hK hP 3 rfl rfl 3 (by decide) (hts (.fieldLink RX7 275 "TheLiningsInIt$Zip" "at" "I") (List.mem_of_getElem? (i := 4) rfl)) (fun _ h9 => h9) rfl dX7_close_31 ?_
    exact W.iret (v := q_6) hx hb hr (fun t ht hW => ⟨⟨q_6, (q_4, q_5, q_6, fr), rfl, ⟨(show 0 ≤ q_4.toInt ∧ q_4.toInt ≤ 24 from hbq_4), (show 0 ≤ q_6.toInt ∧ q_6.toInt ≤ 40 from hbq_6), (show (de.toInt ≠ 0 ∧ (q_6 : Int32).toInt = -6 ∧ q_6 = at_ ∧ q_4 = de ∧ q_5 = sd) ∨ (de.toInt = 0 ∧ zCz fl fs gp.toInt sz.toInt (sz.toInt - at_.toInt).toNat at_.toInt de.toInt sd = (q_6.toInt, q_4.toInt, q_5) ∧ (q_6 : Int32).toInt = q_6.toInt) from by (exact Or.inr ⟨by omega, hsr_2_0, by first | rfl | omega⟩)), trivial⟩, zRet ht hP hD [0, 1, 2, 3, 4, 5] (by decide) rfl⟩, hS.F ht⟩) hS.2.2 dX7_close_34
  · have fc_1 : de.toInt ≠ 0 := zf_ne c_1 rfl (by decide)
    refine lv_aload_n hx hb dX7_close_10 rfl (lv_at hl 0 rfl) ?_
    refine lv_bipush (v := 6) hx hb dX7_close_11 (by decide) ?_
    skip
    refine zw_V (As := [.int 6]) (rest := []) (wr := [(j0, .inr (0, [.ref z0, .ref jp, .ref jc, .int cn, .int de, .int tr, .int se, .int hu, .int sd])), (z0, .inr (6, [.ref zl, .ref zs, .int sz, .int at_, .int gp])), (zl, .inl (cZ, 40, .inl fl)), (zs, .inl (cI, 40, .inl fs))]) ⟨hx, hb, hml, hown, hts⟩ (c_X_refuse_6 l D cI cJ cZ cP cS po x0 xs j0 k0 w0 rd mv xr (im) (lf) fr hy0 hy1 hy2 hy3 H.size) (cwV 1 hts gX7_close_X7_refuse rfl rfl rfl ⟨rfl, dh_X7_refuse⟩ ⟨Nat.le_of_ble_eq_true rfl, Nat.le_of_ble_eq_true rfl⟩) hK hN (hZ.kept hS) hP hD hS hA [0, 1] [2, 3, 4, 5] rfl rfl (by decide) (by decide) (by decide) (va_recv (q := (RX7, TX7, 9)) hK hP (ci := 7) (q0 := 0) rfl rfl) rfl hl.1 rfl (Nat.le_of_ble_eq_true rfl) dX7_close_13 ⟨Nat.le_of_ble_eq_true rfl, Nat.le_of_ble_eq_true rfl⟩ (fun r_7 u_8 H locs hr_7 hP hD hS => ?_)
    obtain ⟨q_9, rfl⟩ : ∃ z, z = u_8 := ⟨_, rfl⟩
    have h9R := zRe (ws' := [(j0, .inr (0, [.ref z0, .ref jp, .ref jc, .int cn, .int de, .int tr, .int se, .int hu, .int sd])), (z0, .inr (6, [.ref zl, .ref zs, .int sz, .int at_, .int gp])), (zl, .inl (cZ, 40, .inl fl)), (zs, .inl (cI, 40, .inl fs)), (x0, .inr (7, [.ref xs, .ref j0, .ref k0, .ref w0, .ref rd, .ref mv, .ref xr, .int im, .int lf])), (xr, .inl (cI, 8, .inl q_9))]) hP hD rfl
    clear hP hD
    obtain ⟨hP, hD⟩ := h9R
    obtain rfl := hr_7
    exact W.iret (v := (-6)) hx hb hr (fun t ht hW => ⟨⟨(-6), (de, sd, at_, q_9), rfl, ⟨(show 0 ≤ de.toInt ∧ de.toInt ≤ 24 from ⟨hy6, hy7⟩), (show 0 ≤ at_.toInt ∧ at_.toInt ≤ 40 from ⟨hy12, hy13⟩), (show (de.toInt ≠ 0 ∧ ((-6) : Int32).toInt = -6 ∧ at_ = at_ ∧ de = de ∧ sd = sd) ∨ (de.toInt = 0 ∧ zCz fl fs gp.toInt sz.toInt (sz.toInt - at_.toInt).toNat at_.toInt de.toInt sd = (at_.toInt, de.toInt, sd) ∧ ((-6) : Int32).toInt = at_.toInt) from by (have k9 : ((-6) : Int32).toInt = -6 := (by decide); exact Or.inl ⟨by omega, by omega, rfl, rfl, rfl⟩)), trivial⟩, zRet ht hP hD [4, 5, 0, 1, 2, 3] (by decide) rfl⟩, hS.F ht⟩) hS.2.2 dX7_close_16
set_option maxHeartbeats 4000000 in
set_option maxRecDepth 100000 in
theorem c_F_X_seed (l : Launch) (D : va_G) (cI cJ cZ cP cS : ClassId) (po : zPool) (x0 xs j0 k0 w0 rd mv xr : Nat) (im lf : Int32) (fr : Nat → Int32) (j0 jp jc z0 zl zs : Nat) (cn de tr se hu sd : Int32) (v : Int32) (hy0 : 0 ≤ im.toInt) (hy1 : im.toInt ≤ 1) (hy2 : (-1) ≤ lf.toInt) (hy3 : lf.toInt ≤ 160) (hy4 : 0 ≤ cn.toInt) (hy5 : cn.toInt ≤ 8) (hy6 : 0 ≤ de.toInt) (hy7 : de.toInt ≤ 24) (hy8 : 0 ≤ hu.toInt) (hy9 : hu.toInt ≤ 9) (hpz : Nat) : Met l yX7_seed wsX7_seed ({ frames := 0, cells := 0, slots := 0, locals := 0 }) (va_Pc [.ref x0, .int v] (zW D (zKT cI cJ cZ cP cS) po [(x0, .inr (7, [.ref xs, .ref j0, .ref k0, .ref w0, .ref rd, .ref mv, .ref xr, .int im, .int lf])), (j0, .inr (0, [.ref z0, .ref jp, .ref jc, .int cn, .int de, .int tr, .int se, .int hu, .int sd]))] hpz)) (va_Qi (fun (r : Int32) (sd2 : (Int32)) => (r = sd ∧ sd2 = v) ∧ (True)) (zB D [(x0, .inr (7, [.ref xs, .ref j0, .ref k0, .ref w0, .ref rd, .ref mv, .ref xr, .int im, .int lf])), (j0, .inr (0, [.ref z0, .ref jp, .ref jc, .int cn, .int de, .int tr, .int se, .int hu, .int sd]))] hpz (fun (sd2 : Int32) => [(x0, .inr (7, [.ref xs, .ref j0, .ref k0, .ref w0, .ref rd, .ref mv, .ref xr, .int im, .int lf])), (j0, .inr (0, [.ref z0, .ref jp, .ref jc, .int cn, .int de, .int tr, .int se, .int hu, .int sd2]))])) (va_A [(x0, .inr (7, [.ref xs, .ref j0, .ref k0, .ref w0, .ref rd, .ref mv, .ref xr, .int im, .int lf])), (j0, .inr (0, [.ref z0, .ref jp, .ref jc, .int cn, .int de, .int tr, .int se, .int hu, .int sd]))] hpz)) 0 0 (va_A [(x0, .inr (7, [.ref xs, .ref j0, .ref k0, .ref w0, .ref rd, .ref mv, .ref xr, .int im, .int lf])), (j0, .inr (0, [.ref z0, .ref jp, .ref jc, .int cn, .int de, .int tr, .int se, .int hu, .int sd]))] hpz) := by
  refine Met.ofW (cc := cX7_seed) (maxL := 3) (ret := (some .int)) (by decide) rfl ?_
  intro p e s m args below meth c s₁ B hml hv
  obtain ⟨rfl, hsz, hP, hK, hD0, hN, hZ⟩ := hv
  have hx := B.exec
  have hb := B.bytes
  have hr := B.returns
  have hts := atoms_spec (ws := wsX7_seed) B.pre
  have hown : s.vm.findClass RX7 = some m.cls := findClass_of_methodNamed B.named
  have hlocks := B.notSynchronized
  subst hsz
  have hD := hD0.self (sz := s.heap.size)
  have hA := zA_of hD
  have hl := lv_entry ([.ref x0, .int v]) (n := 3) (Nat.le_of_ble_eq_true rfl)
  rw [lg_entry_eq]
  generalize (lg_sl ([.ref x0, .int v]) ++ List.replicate (3 - (lg_sl ([.ref x0, .int v])).length) Slot.unset).toArray = ls at hl ⊢
  replace hl : lv_has ls 3 [(0, .ref x0), (1, .int v)] := hl
  refine zw_begin hP hD (fun H locs hP1 hS => ?_)
  clear hP
  have hP := hP1
  clear hP1
  refine lv_aload_n hx hb dX7_seed_0 rfl (lv_at hl 0 rfl) ?_
  refine va_get (D := D) (ci := 7) (v := .ref j0) (C := RX7) (T := TX7) (N := 9) hx hb hts hi_X7_seed_7 hown hK hP 0 rfl rfl 1 (by decide) (hts (.fieldLink RX7 18 "TheLiningsInIt" "now" "LTheLiningsInIt$Jacket;") (List.mem_of_getElem? (i := 1) rfl)) (fun _ h9 => h9) rfl dX7_seed_1 ?_
  refine va_get (D := D) (ci := 0) (v := .int sd) (C := RX0) (T := TX0) (N := 9) hx hb hts hi_X7_seed_0 hown hK hP 1 rfl rfl 8 (by decide) (hts (.fieldLink RX7 285 "TheLiningsInIt$Jacket" "seedNow" "I") (List.mem_of_getElem? (i := 2) rfl)) (fun _ h9 => h9) rfl dX7_seed_4 ?_
  refine lv_istore_n (lv' := [(2, .int sd), (0, .ref x0), (1, .int v)]) hx hb dX7_seed_7 rfl hl (by decide) rfl (fun ls hl => ?_)
  refine lv_aload_n hx hb dX7_seed_8 rfl (lv_at hl 1 rfl) ?_
  refine va_get (D := D) (ci := 7) (v := .ref j0) (C := RX7) (T := TX7) (N := 9) hx hb hts hi_X7_seed_7 hown hK hP 0 rfl rfl 1 (by decide) (hts (.fieldLink RX7 18 "TheLiningsInIt" "now" "LTheLiningsInIt$Jacket;") (List.mem_of_getElem? (i := 1) rfl)) (fun _ h9 => h9) rfl dX7_seed_9 ?_
  refine lv_iload_n hx hb dX7_seed_12 rfl (lv_at hl 2 rfl) ?_
  refine va_put (D := D) (ci := 0) (v := .int v) (ty := .int) (C := RX0) (T := TX0) (N := 9) hx hb hts hi_X7_seed_0 tyX0 tyX0_ok nmX0 hown hK hP hD hS 1 rfl rfl 8 (by decide) (hts (.fieldLink RX7 285 "TheLiningsInIt$Jacket" "seedNow" "I") (List.mem_of_getElem? (i := 2) rfl)) (fun _ h9 => h9) rfl (tyX0_ok 8 (Nat.le_of_ble_eq_true rfl)) rfl rfl (Nat.le_of_ble_eq_true rfl) dX7_seed_13 (fun H locs hP hD hS => ?_)
  have h9R := zRe (ws' := [(x0, .inr (7, [.ref xs, .ref j0, .ref k0, .ref w0, .ref rd, .ref mv, .ref xr, .int im, .int lf])), (j0, .inr (0, [.ref z0, .ref jp, .ref jc, .int cn, .int de, .int tr, .int se, .int hu, .int v]))]) hP hD rfl
  clear hP hD
  obtain ⟨hP, hD⟩ := h9R
  refine lv_iload_n hx hb dX7_seed_16 rfl (lv_at hl 0 rfl) ?_
  exact W.iret (v := sd) hx hb hr (fun t ht hW => ⟨⟨sd, v, rfl, ⟨(show (sd : Int32) = sd ∧ v = v from by exact ⟨rfl, rfl⟩), trivial⟩, zRet ht hP hD [0, 1] (by decide) rfl⟩, hS.F ht⟩) hS.2.2 dX7_seed_17
set_option maxHeartbeats 4000000 in
set_option maxRecDepth 100000 in
theorem c_F_X_pullOf (l : Launch) (D : va_G) (cI cJ cZ cP cS : ClassId) (po : zPool) (x0 xs j0 k0 w0 rd mv xr : Nat) (im lf : Int32) (fr : Nat → Int32) (j0 jp jc z0 zl zs : Nat) (cn de tr se hu sd : Int32) (fp : Nat → Option Nat) (kf af tf : Nat → Int32) (p_ w : Int32) (hy0 : 0 ≤ im.toInt) (hy1 : im.toInt ≤ 1) (hy2 : (-1) ≤ lf.toInt) (hy3 : lf.toInt ≤ 160) (hy4 : 0 ≤ cn.toInt) (hy5 : cn.toInt ≤ 8) (hy6 : 0 ≤ de.toInt) (hy7 : de.toInt ≤ 24) (hy8 : 0 ≤ hu.toInt) (hy9 : hu.toInt ≤ 9) (hjp : zJP po fp cn kf af tf) (hpz : Nat) : Met l yX7_pullOf wsX7_pullOf ({ frames := 2, cells := 0, slots := 0, locals := 43 }) (va_Pc [.ref x0, .int p_, .int w] (zW D (zKT cI cJ cZ cP cS) po [(x0, .inr (7, [.ref xs, .ref j0, .ref k0, .ref w0, .ref rd, .ref mv, .ref xr, .int im, .int lf])), (xr, .inl (cI, 8, .inl fr)), (j0, .inr (0, [.ref z0, .ref jp, .ref jc, .int cn, .int de, .int tr, .int se, .int hu, .int sd])), (jp, .inl (cP, 8, .inr (.inr (.inr (.inr fp)))))] hpz)) (va_Qi (fun (r : Int32) (fr2 : (Nat → Int32)) => (((p_.toInt < 0 ∨ cn.toInt ≤ p_.toInt) ∧ r.toInt = -5) ∨ ((0 ≤ p_.toInt ∧ p_.toInt < cn.toInt) ∧ (((w.toInt < 0 ∨ 4 < w.toInt) ∧ r.toInt = -5) ∨ ((0 ≤ w.toInt ∧ w.toInt ≤ 4) ∧ r.toInt = (if w.toInt = 0 then (kf p_.toNatClampNeg).toInt else if w.toInt = 1 then (af p_.toNatClampNeg).toInt else if w.toInt = 2 then (tf p_.toNatClampNeg).toInt else if w.toInt = 3 then zStp (kf p_.toNatClampNeg).toInt (af p_.toNatClampNeg).toInt else if 1 ≤ de.toInt ∧ (tf p_.toNatClampNeg).toInt ≤ se.toInt then 1 else 0))))) ∧ (True)) (zB D [(x0, .inr (7, [.ref xs, .ref j0, .ref k0, .ref w0, .ref rd, .ref mv, .ref xr, .int im, .int lf])), (xr, .inl (cI, 8, .inl fr)), (j0, .inr (0, [.ref z0, .ref jp, .ref jc, .int cn, .int de, .int tr, .int se, .int hu, .int sd])), (jp, .inl (cP, 8, .inr (.inr (.inr (.inr fp)))))] hpz (fun (fr2 : Nat → Int32) => [(x0, .inr (7, [.ref xs, .ref j0, .ref k0, .ref w0, .ref rd, .ref mv, .ref xr, .int im, .int lf])), (xr, .inl (cI, 8, .inl fr2)), (j0, .inr (0, [.ref z0, .ref jp, .ref jc, .int cn, .int de, .int tr, .int se, .int hu, .int sd])), (jp, .inl (cP, 8, .inr (.inr (.inr (.inr fp)))))])) (va_A [(x0, .inr (7, [.ref xs, .ref j0, .ref k0, .ref w0, .ref rd, .ref mv, .ref xr, .int im, .int lf])), (xr, .inl (cI, 8, .inl fr)), (j0, .inr (0, [.ref z0, .ref jp, .ref jc, .int cn, .int de, .int tr, .int se, .int hu, .int sd])), (jp, .inl (cP, 8, .inr (.inr (.inr (.inr fp)))))] hpz)) 0 0 (va_A [(x0, .inr (7, [.ref xs, .ref j0, .ref k0, .ref w0, .ref rd, .ref mv, .ref xr, .int im, .int lf])), (xr, .inl (cI, 8, .inl fr)), (j0, .inr (0, [.ref z0, .ref jp, .ref jc, .int cn, .int de, .int tr, .int se, .int hu, .int sd])), (jp, .inl (cP, 8, .inr (.inr (.inr (.inr fp)))))] hpz) := by
  refine Met.ofW (cc := cX7_pullOf) (maxL := 4) (ret := (some .int)) (by decide) rfl ?_
  intro p e s m args below meth c s₁ B hml hv
  obtain ⟨rfl, hsz, hP, hK, hD0, hN, hZ⟩ := hv
  have hx := B.exec
  have hb := B.bytes
  have hr := B.returns
  have hts := atoms_spec (ws := wsX7_pullOf) B.pre
  have hown : s.vm.findClass RX7 = some m.cls := findClass_of_methodNamed B.named
  have hlocks := B.notSynchronized
  subst hsz
  have hD := hD0.self (sz := s.heap.size)
  have hA := zA_of hD
  have hl := lv_entry ([.ref x0, .int p_, .int w]) (n := 4) (Nat.le_of_ble_eq_true rfl)
  rw [lg_entry_eq]
  generalize (lg_sl ([.ref x0, .int p_, .int w]) ++ List.replicate (4 - (lg_sl ([.ref x0, .int p_, .int w])).length) Slot.unset).toArray = ls at hl ⊢
  replace hl : lv_has ls 4 [(0, .ref x0), (1, .int p_), (2, .int w)] := hl
  refine zw_begin hP hD (fun H locs hP1 hS => ?_)
  clear hP
  have hP := hP1
  clear hP1
  refine lv_aload_n hx hb dX7_pullOf_0 rfl (lv_at hl 0 rfl) ?_
  refine va_get (D := D) (ci := 7) (v := .ref j0) (C := RX7) (T := TX7) (N := 9) hx hb hts hi_X7_pullOf_7 hown hK hP 0 rfl rfl 1 (by decide) (hts (.fieldLink RX7 18 "TheLiningsInIt" "now" "LTheLiningsInIt$Jacket;") (List.mem_of_getElem? (i := 1) rfl)) (fun _ h9 => h9) rfl dX7_pullOf_1 ?_
  refine lv_iload_n hx hb dX7_pullOf_4 rfl (lv_at hl 1 rfl) ?_
  refine zc_Vq (As := [.int p_]) (rest := []) ⟨hx, hb, hml, hown, hts⟩ (c_F_J_pullAt l D cI cJ cZ cP cS po j0 jp jc z0 0 0 (cn) (de) (tr) (se) (hu) (sd) fp kf af tf (p_) hy4 hy5 hy6 hy7 hy8 hy9 hjp) (cwV 1 hts gX7_pullOf_X0_pullAt rfl rfl rfl ⟨rfl, dh_X0_pullAt⟩ ⟨Nat.le_of_ble_eq_true rfl, Nat.le_of_ble_eq_true rfl⟩) hK hN (hZ.kept hS) hP (hP.sub [2, 3] rfl) (va_recv (q := (RX0, TX0, 9)) hK hP (ci := 0) (q0 := 2) rfl rfl) rfl hl.1 rfl (Nat.le_of_ble_eq_true rfl) dX7_pullOf_5 ⟨Nat.le_of_ble_eq_true rfl, Nat.le_of_ble_eq_true rfl⟩ (fun r_1 hr_1 => ?_)
  rcases hr_1 with ⟨rfl, g_2⟩ | ⟨rfl, g_3, g_4⟩ | ⟨⟨u_6, kiu_6, au_6, tu_6, rfl, huu_6, hkku_6⟩, g_5⟩
  · refine lv_astore_nN (lv' := [(3, .null), (0, .ref x0), (1, .int p_), (2, .int w)]) hx hb dX7_pullOf_8 rfl hl (by decide) rfl (fun ls hl => ?_)
    refine lv_aload_nN hx hb dX7_pullOf_9 rfl (lv_at hl 0 rfl) ?_
    refine lv_ifnonnullN hx hb dX7_pullOf_10 ?_
    refine lv_aload_n hx hb dX7_pullOf_13 rfl (lv_at hl 1 rfl) ?_
    refine lv_iconst (v := 5) hx hb dX7_pullOf_14 (by decide) ?_
    skip
    refine zw_V (As := [.int 5]) (rest := []) (wr := [(j0, .inr (0, [.ref z0, .ref jp, .ref jc, .int cn, .int de, .int tr, .int se, .int hu, .int sd])), (jp, .inl (cP, 8, .inr (.inr (.inr (.inr fp)))))]) ⟨hx, hb, hml, hown, hts⟩ (c_X_refuse_5 l D cI cJ cZ cP cS po x0 xs j0 k0 w0 rd mv xr (im) (lf) fr hy0 hy1 hy2 hy3 H.size) (cwV 1 hts gX7_pullOf_X7_refuse rfl rfl rfl ⟨rfl, dh_X7_refuse⟩ ⟨Nat.le_of_ble_eq_true rfl, Nat.le_of_ble_eq_true rfl⟩) hK hN (hZ.kept hS) hP hD hS hA [0, 1] [2, 3] rfl rfl (by decide) (by decide) (by decide) (va_recv (q := (RX7, TX7, 9)) hK hP (ci := 7) (q0 := 0) rfl rfl) rfl hl.1 rfl (Nat.le_of_ble_eq_true rfl) dX7_pullOf_15 ⟨Nat.le_of_ble_eq_true rfl, Nat.le_of_ble_eq_true rfl⟩ (fun r_7 u_8 H locs hr_7 hP hD hS => ?_)
    obtain ⟨q_9, rfl⟩ : ∃ z, z = u_8 := ⟨_, rfl⟩
    have h9R := zRe (ws' := [(j0, .inr (0, [.ref z0, .ref jp, .ref jc, .int cn, .int de, .int tr, .int se, .int hu, .int sd])), (jp, .inl (cP, 8, .inr (.inr (.inr (.inr fp))))), (x0, .inr (7, [.ref xs, .ref j0, .ref k0, .ref w0, .ref rd, .ref mv, .ref xr, .int im, .int lf])), (xr, .inl (cI, 8, .inl q_9))]) hP hD rfl
    clear hP hD
    obtain ⟨hP, hD⟩ := h9R
    obtain rfl := hr_7
    exact W.iret (v := (-5)) hx hb hr (fun t ht hW => ⟨⟨(-5), q_9, rfl, ⟨(show ((p_.toInt < 0 ∨ cn.toInt ≤ p_.toInt) ∧ ((-5) : Int32).toInt = -5) ∨ ((0 ≤ p_.toInt ∧ p_.toInt < cn.toInt) ∧ (((w.toInt < 0 ∨ 4 < w.toInt) ∧ ((-5) : Int32).toInt = -5) ∨ ((0 ≤ w.toInt ∧ w.toInt ≤ 4) ∧ ((-5) : Int32).toInt = (if w.toInt = 0 then (kf p_.toNatClampNeg).toInt else if w.toInt = 1 then (af p_.toNatClampNeg).toInt else if w.toInt = 2 then (tf p_.toNatClampNeg).toInt else if w.toInt = 3 then zStp (kf p_.toNatClampNeg).toInt (af p_.toNatClampNeg).toInt else if 1 ≤ de.toInt ∧ (tf p_.toNatClampNeg).toInt ≤ se.toInt then 1 else 0)))) from by (have k9 : ((-5) : Int32).toInt = -5 := (by decide); exact Or.inl ⟨by omega, by omega⟩)), trivial⟩, zRet ht hP hD [2, 3, 0, 1] (by decide) rfl⟩, hS.F ht⟩) hS.2.2 dX7_pullOf_18
  · refine lv_astore_nN (lv' := [(3, .null), (0, .ref x0), (1, .int p_), (2, .int w)]) hx hb dX7_pullOf_8 rfl hl (by decide) rfl (fun ls hl => ?_)
    refine lv_aload_nN hx hb dX7_pullOf_9 rfl (lv_at hl 0 rfl) ?_
    refine lv_ifnonnullN hx hb dX7_pullOf_10 ?_
    refine lv_aload_n hx hb dX7_pullOf_13 rfl (lv_at hl 1 rfl) ?_
    refine lv_iconst (v := 5) hx hb dX7_pullOf_14 (by decide) ?_
    skip
    refine zw_V (As := [.int 5]) (rest := []) (wr := [(j0, .inr (0, [.ref z0, .ref jp, .ref jc, .int cn, .int de, .int tr, .int se, .int hu, .int sd])), (jp, .inl (cP, 8, .inr (.inr (.inr (.inr fp)))))]) ⟨hx, hb, hml, hown, hts⟩ (c_X_refuse_5 l D cI cJ cZ cP cS po x0 xs j0 k0 w0 rd mv xr (im) (lf) fr hy0 hy1 hy2 hy3 H.size) (cwV 1 hts gX7_pullOf_X7_refuse rfl rfl rfl ⟨rfl, dh_X7_refuse⟩ ⟨Nat.le_of_ble_eq_true rfl, Nat.le_of_ble_eq_true rfl⟩) hK hN (hZ.kept hS) hP hD hS hA [0, 1] [2, 3] rfl rfl (by decide) (by decide) (by decide) (va_recv (q := (RX7, TX7, 9)) hK hP (ci := 7) (q0 := 0) rfl rfl) rfl hl.1 rfl (Nat.le_of_ble_eq_true rfl) dX7_pullOf_15 ⟨Nat.le_of_ble_eq_true rfl, Nat.le_of_ble_eq_true rfl⟩ (fun r_10 u_11 H locs hr_10 hP hD hS => ?_)
    obtain ⟨q_12, rfl⟩ : ∃ z, z = u_11 := ⟨_, rfl⟩
    have h9R := zRe (ws' := [(j0, .inr (0, [.ref z0, .ref jp, .ref jc, .int cn, .int de, .int tr, .int se, .int hu, .int sd])), (jp, .inl (cP, 8, .inr (.inr (.inr (.inr fp))))), (x0, .inr (7, [.ref xs, .ref j0, .ref k0, .ref w0, .ref rd, .ref mv, .ref xr, .int im, .int lf])), (xr, .inl (cI, 8, .inl q_12))]) hP hD rfl
    clear hP hD
    obtain ⟨hP, hD⟩ := h9R
    obtain rfl := hr_10
    exact W.iret (v := (-5)) hx hb hr (fun t ht hW => ⟨⟨(-5), q_12, rfl, ⟨(show ((p_.toInt < 0 ∨ cn.toInt ≤ p_.toInt) ∧ ((-5) : Int32).toInt = -5) ∨ ((0 ≤ p_.toInt ∧ p_.toInt < cn.toInt) ∧ (((w.toInt < 0 ∨ 4 < w.toInt) ∧ ((-5) : Int32).toInt = -5) ∨ ((0 ≤ w.toInt ∧ w.toInt ≤ 4) ∧ ((-5) : Int32).toInt = (if w.toInt = 0 then (kf p_.toNatClampNeg).toInt else if w.toInt = 1 then (af p_.toNatClampNeg).toInt else if w.toInt = 2 then (tf p_.toNatClampNeg).toInt else if w.toInt = 3 then zStp (kf p_.toNatClampNeg).toInt (af p_.toNatClampNeg).toInt else if 1 ≤ de.toInt ∧ (tf p_.toNatClampNeg).toInt ≤ se.toInt then 1 else 0)))) from by (have k9 : ((-5) : Int32).toInt = -5 := (by decide); exact Or.inl ⟨by omega, by omega⟩)), trivial⟩, zRet ht hP hD [2, 3, 0, 1] (by decide) rfl⟩, hS.F ht⟩) hS.2.2 dX7_pullOf_18
  · refine W.eq (g2 := F0 m 8 ls (.ref u_6 :: [])) rfl ?_
    obtain ⟨hku_6, hau_6, htu_6⟩ := zPu_pr (hZ.kept hS) huu_6
    refine lv_astore_n (lv' := [(3, .ref u_6), (0, .ref x0), (1, .int p_), (2, .int w)]) hx hb dX7_pullOf_8 rfl hl (by decide) rfl (fun ls hl => ?_)
    refine lv_aload_n hx hb dX7_pullOf_9 rfl (lv_at hl 0 rfl) ?_
    refine lv_ifnonnull (tgt := 19) hx hb dX7_pullOf_10 (by decide) ?_
    refine lv_iload_n hx hb dX7_pullOf_19 rfl (lv_at hl 3 rfl) ?_
    by_cases hsp : w.toInt < 0 ∨ 4 < w.toInt
    · refine lv_tableOut (tgt := 93) hx hb dX7_pullOf_20 hsp (by decide) ?_
      refine lv_aload_n hx hb dX7_pullOf_93 rfl (lv_at hl 1 rfl) ?_
      refine lv_iconst (v := 5) hx hb dX7_pullOf_94 (by decide) ?_
      skip
      refine zw_V (As := [.int 5]) (rest := []) (wr := [(j0, .inr (0, [.ref z0, .ref jp, .ref jc, .int cn, .int de, .int tr, .int se, .int hu, .int sd])), (jp, .inl (cP, 8, .inr (.inr (.inr (.inr fp)))))]) ⟨hx, hb, hml, hown, hts⟩ (c_X_refuse_5 l D cI cJ cZ cP cS po x0 xs j0 k0 w0 rd mv xr (im) (lf) fr hy0 hy1 hy2 hy3 H.size) (cwV 1 hts gX7_pullOf_X7_refuse rfl rfl rfl ⟨rfl, dh_X7_refuse⟩ ⟨Nat.le_of_ble_eq_true rfl, Nat.le_of_ble_eq_true rfl⟩) hK hN (hZ.kept hS) hP hD hS hA [0, 1] [2, 3] rfl rfl (by decide) (by decide) (by decide) (va_recv (q := (RX7, TX7, 9)) hK hP (ci := 7) (q0 := 0) rfl rfl) rfl hl.1 rfl (Nat.le_of_ble_eq_true rfl) dX7_pullOf_95 ⟨Nat.le_of_ble_eq_true rfl, Nat.le_of_ble_eq_true rfl⟩ (fun r_13 u_14 H locs hr_13 hP hD hS => ?_)
      obtain ⟨q_15, rfl⟩ : ∃ z, z = u_14 := ⟨_, rfl⟩
      have h9R := zRe (ws' := [(j0, .inr (0, [.ref z0, .ref jp, .ref jc, .int cn, .int de, .int tr, .int se, .int hu, .int sd])), (jp, .inl (cP, 8, .inr (.inr (.inr (.inr fp))))), (x0, .inr (7, [.ref xs, .ref j0, .ref k0, .ref w0, .ref rd, .ref mv, .ref xr, .int im, .int lf])), (xr, .inl (cI, 8, .inl q_15))]) hP hD rfl
      clear hP hD
      obtain ⟨hP, hD⟩ := h9R
      obtain rfl := hr_13
      exact W.iret (v := (-5)) hx hb hr (fun t ht hW => ⟨⟨(-5), q_15, rfl, ⟨(show ((p_.toInt < 0 ∨ cn.toInt ≤ p_.toInt) ∧ ((-5) : Int32).toInt = -5) ∨ ((0 ≤ p_.toInt ∧ p_.toInt < cn.toInt) ∧ (((w.toInt < 0 ∨ 4 < w.toInt) ∧ ((-5) : Int32).toInt = -5) ∨ ((0 ≤ w.toInt ∧ w.toInt ≤ 4) ∧ ((-5) : Int32).toInt = (if w.toInt = 0 then (kf p_.toNatClampNeg).toInt else if w.toInt = 1 then (af p_.toNatClampNeg).toInt else if w.toInt = 2 then (tf p_.toNatClampNeg).toInt else if w.toInt = 3 then zStp (kf p_.toNatClampNeg).toInt (af p_.toNatClampNeg).toInt else if 1 ≤ de.toInt ∧ (tf p_.toNatClampNeg).toInt ≤ se.toInt then 1 else 0)))) from by (have k9 : ((-5) : Int32).toInt = -5 := (by decide); obtain ⟨⟨y1, y2, y3⟩, y4, y5⟩ := hkku_6; first | exact Or.inr ⟨by omega, Or.inl ⟨by omega, by omega⟩⟩ | (refine Or.inr ⟨by omega, Or.inr ⟨by omega, ?_⟩⟩; rw [← y1, ← y2, ← y3]; (repeat (first | rw [if_pos (by omega)] | rw [if_neg (by omega)])); first | done | omega | rfl | (rw [if_pos ⟨by omega, by omega⟩]; omega) | (rw [if_neg (fun z => by (have z1 := z.1; have z2 := z.2; omega))]; omega)))), trivial⟩, zRet ht hP hD [2, 3, 0, 1] (by decide) rfl⟩, hS.F ht⟩) hS.2.2 dX7_pullOf_98
    · have hsp : w = 0 ∨ w = 1 ∨ w = 2 ∨ w = 3 ∨ w = 4 := by
        rcases (show w.toInt = 0 ∨ w.toInt = 1 ∨ w.toInt = 2 ∨ w.toInt = 3 ∨ w.toInt = 4 by omega) with h9 | h9 | h9 | h9 | h9
        · refine Or.inl ?_; exact zf_val h9 (by decide)
        · refine Or.inr (Or.inl ?_); exact zf_val h9 (by decide)
        · refine Or.inr (Or.inr (Or.inl ?_)); exact zf_val h9 (by decide)
        · refine Or.inr (Or.inr (Or.inr (Or.inl ?_))); exact zf_val h9 (by decide)
        · refine Or.inr (Or.inr (Or.inr (Or.inr (?_)))); exact zf_val h9 (by decide)
      rcases hsp with rfl | rfl | rfl | rfl | rfl
      · have kc0 : (0 : Int32).toInt = 0 := by decide
        refine lv_tableIn (tgt := 56) hx hb dX7_pullOf_20 (by decide) (by decide) rfl (by decide) ?_
        refine lv_aload_n hx hb dX7_pullOf_56 rfl (lv_at hl 0 rfl) ?_
        refine va_get (D := D) (ci := 2) (v := .int kiu_6) (C := RX2) (T := TX2) (N := 3) hx hb hts hi_X7_pullOf_2 hown hK (zPu_P (hZ.kept hS) huu_6) 0 rfl rfl 0 (by decide) (hts (.fieldLink RX7 130 "TheLiningsInIt$Pull" "kind" "I") (List.mem_of_getElem? (i := 2) rfl)) (fun _ h9 => h9) rfl dX7_pullOf_57 ?_
        exact W.iret (v := kiu_6) hx hb hr (fun t ht hW => ⟨⟨kiu_6, fr, rfl, ⟨(show ((p_.toInt < 0 ∨ cn.toInt ≤ p_.toInt) ∧ (kiu_6 : Int32).toInt = -5) ∨ ((0 ≤ p_.toInt ∧ p_.toInt < cn.toInt) ∧ ((((0 : Int32).toInt < 0 ∨ 4 < (0 : Int32).toInt) ∧ (kiu_6 : Int32).toInt = -5) ∨ ((0 ≤ (0 : Int32).toInt ∧ (0 : Int32).toInt ≤ 4) ∧ (kiu_6 : Int32).toInt = (if (0 : Int32).toInt = 0 then (kf p_.toNatClampNeg).toInt else if (0 : Int32).toInt = 1 then (af p_.toNatClampNeg).toInt else if (0 : Int32).toInt = 2 then (tf p_.toNatClampNeg).toInt else if (0 : Int32).toInt = 3 then zStp (kf p_.toNatClampNeg).toInt (af p_.toNatClampNeg).toInt else if 1 ≤ de.toInt ∧ (tf p_.toNatClampNeg).toInt ≤ se.toInt then 1 else 0)))) from by (obtain ⟨⟨y1, y2, y3⟩, y4, y5⟩ := hkku_6; first | exact Or.inr ⟨by omega, Or.inl ⟨by omega, by omega⟩⟩ | (refine Or.inr ⟨by omega, Or.inr ⟨by omega, ?_⟩⟩; rw [← y1, ← y2, ← y3]; (repeat (first | rw [if_pos (by omega)] | rw [if_neg (by omega)])); first | done | omega | rfl | (rw [if_pos ⟨by omega, by omega⟩]; omega) | (rw [if_neg (fun z => by (have z1 := z.1; have z2 := z.2; omega))]; omega)))), trivial⟩, zRet ht hP hD [0, 1, 2, 3] (by decide) rfl⟩, hS.F ht⟩) hS.2.2 dX7_pullOf_60
      · have kc1 : (1 : Int32).toInt = 1 := by decide
        refine lv_tableIn (tgt := 61) hx hb dX7_pullOf_20 (by decide) (by decide) rfl (by decide) ?_
        refine lv_aload_n hx hb dX7_pullOf_61 rfl (lv_at hl 0 rfl) ?_
        refine va_get (D := D) (ci := 2) (v := .int au_6) (C := RX2) (T := TX2) (N := 3) hx hb hts hi_X7_pullOf_2 hown hK (zPu_P (hZ.kept hS) huu_6) 0 rfl rfl 1 (by decide) (hts (.fieldLink RX7 133 "TheLiningsInIt$Pull" "a" "I") (List.mem_of_getElem? (i := 3) rfl)) (fun _ h9 => h9) rfl dX7_pullOf_62 ?_
        exact W.iret (v := au_6) hx hb hr (fun t ht hW => ⟨⟨au_6, fr, rfl, ⟨(show ((p_.toInt < 0 ∨ cn.toInt ≤ p_.toInt) ∧ (au_6 : Int32).toInt = -5) ∨ ((0 ≤ p_.toInt ∧ p_.toInt < cn.toInt) ∧ ((((1 : Int32).toInt < 0 ∨ 4 < (1 : Int32).toInt) ∧ (au_6 : Int32).toInt = -5) ∨ ((0 ≤ (1 : Int32).toInt ∧ (1 : Int32).toInt ≤ 4) ∧ (au_6 : Int32).toInt = (if (1 : Int32).toInt = 0 then (kf p_.toNatClampNeg).toInt else if (1 : Int32).toInt = 1 then (af p_.toNatClampNeg).toInt else if (1 : Int32).toInt = 2 then (tf p_.toNatClampNeg).toInt else if (1 : Int32).toInt = 3 then zStp (kf p_.toNatClampNeg).toInt (af p_.toNatClampNeg).toInt else if 1 ≤ de.toInt ∧ (tf p_.toNatClampNeg).toInt ≤ se.toInt then 1 else 0)))) from by (obtain ⟨⟨y1, y2, y3⟩, y4, y5⟩ := hkku_6; first | exact Or.inr ⟨by omega, Or.inl ⟨by omega, by omega⟩⟩ | (refine Or.inr ⟨by omega, Or.inr ⟨by omega, ?_⟩⟩; rw [← y1, ← y2, ← y3]; (repeat (first | rw [if_pos (by omega)] | rw [if_neg (by omega)])); first | done | omega | rfl | (rw [if_pos ⟨by omega, by omega⟩]; omega) | (rw [if_neg (fun z => by (have z1 := z.1; have z2 := z.2; omega))]; omega)))), trivial⟩, zRet ht hP hD [0, 1, 2, 3] (by decide) rfl⟩, hS.F ht⟩) hS.2.2 dX7_pullOf_65
      · have kc2 : (2 : Int32).toInt = 2 := by decide
        refine lv_tableIn (tgt := 66) hx hb dX7_pullOf_20 (by decide) (by decide) rfl (by decide) ?_
        refine lv_aload_n hx hb dX7_pullOf_66 rfl (lv_at hl 0 rfl) ?_
        refine va_get (D := D) (ci := 2) (v := .int tu_6) (C := RX2) (T := TX2) (N := 3) hx hb hts hi_X7_pullOf_2 hown hK (zPu_P (hZ.kept hS) huu_6) 0 rfl rfl 2 (by decide) (hts (.fieldLink RX7 110 "TheLiningsInIt$Pull" "takes" "I") (List.mem_of_getElem? (i := 4) rfl)) (fun _ h9 => h9) rfl dX7_pullOf_67 ?_
        exact W.iret (v := tu_6) hx hb hr (fun t ht hW => ⟨⟨tu_6, fr, rfl, ⟨(show ((p_.toInt < 0 ∨ cn.toInt ≤ p_.toInt) ∧ (tu_6 : Int32).toInt = -5) ∨ ((0 ≤ p_.toInt ∧ p_.toInt < cn.toInt) ∧ ((((2 : Int32).toInt < 0 ∨ 4 < (2 : Int32).toInt) ∧ (tu_6 : Int32).toInt = -5) ∨ ((0 ≤ (2 : Int32).toInt ∧ (2 : Int32).toInt ≤ 4) ∧ (tu_6 : Int32).toInt = (if (2 : Int32).toInt = 0 then (kf p_.toNatClampNeg).toInt else if (2 : Int32).toInt = 1 then (af p_.toNatClampNeg).toInt else if (2 : Int32).toInt = 2 then (tf p_.toNatClampNeg).toInt else if (2 : Int32).toInt = 3 then zStp (kf p_.toNatClampNeg).toInt (af p_.toNatClampNeg).toInt else if 1 ≤ de.toInt ∧ (tf p_.toNatClampNeg).toInt ≤ se.toInt then 1 else 0)))) from by (obtain ⟨⟨y1, y2, y3⟩, y4, y5⟩ := hkku_6; first | exact Or.inr ⟨by omega, Or.inl ⟨by omega, by omega⟩⟩ | (refine Or.inr ⟨by omega, Or.inr ⟨by omega, ?_⟩⟩; rw [← y1, ← y2, ← y3]; (repeat (first | rw [if_pos (by omega)] | rw [if_neg (by omega)])); first | done | omega | rfl | (rw [if_pos ⟨by omega, by omega⟩]; omega) | (rw [if_neg (fun z => by (have z1 := z.1; have z2 := z.2; omega))]; omega)))), trivial⟩, zRet ht hP hD [0, 1, 2, 3] (by decide) rfl⟩, hS.F ht⟩) hS.2.2 dX7_pullOf_70
      · have kc3 : (3 : Int32).toInt = 3 := by decide
        refine lv_tableIn (tgt := 71) hx hb dX7_pullOf_20 (by decide) (by decide) rfl (by decide) ?_
        refine lv_aload_n hx hb dX7_pullOf_71 rfl (lv_at hl 0 rfl) ?_
        refine zc_V (As := []) (rest := []) ⟨hx, hb, hml, hown, hts⟩ (c_F_Pull_step l D cI cJ cZ cP cS po u_6 (kiu_6) (au_6) (tu_6) huu_6 ⟨by omega, by omega, by omega, by omega⟩) (cwV 0 hts gX7_pullOf_X2_step rfl rfl rfl ⟨rfl, dh_X2_step⟩ ⟨Nat.le_of_ble_eq_true rfl, Nat.le_of_ble_eq_true rfl⟩) hK hN (hZ.kept hS) hP zP_nil (va_recv (q := (RX2, TX2, 3)) hK (zPu_P (hZ.kept hS) huu_6) (ci := 2) (q0 := 0) rfl rfl) rfl hl.1 rfl (Nat.le_of_ble_eq_true rfl) dX7_pullOf_72 ⟨Nat.le_of_ble_eq_true rfl, Nat.le_of_ble_eq_true rfl⟩ (fun r_16 hr_16 => ?_)
        obtain ⟨g_17, g_18, hsr_16_0⟩ := hr_16
        exact W.iret (v := r_16) hx hb hr (fun t ht hW => ⟨⟨r_16, fr, rfl, ⟨(show ((p_.toInt < 0 ∨ cn.toInt ≤ p_.toInt) ∧ (r_16 : Int32).toInt = -5) ∨ ((0 ≤ p_.toInt ∧ p_.toInt < cn.toInt) ∧ ((((3 : Int32).toInt < 0 ∨ 4 < (3 : Int32).toInt) ∧ (r_16 : Int32).toInt = -5) ∨ ((0 ≤ (3 : Int32).toInt ∧ (3 : Int32).toInt ≤ 4) ∧ (r_16 : Int32).toInt = (if (3 : Int32).toInt = 0 then (kf p_.toNatClampNeg).toInt else if (3 : Int32).toInt = 1 then (af p_.toNatClampNeg).toInt else if (3 : Int32).toInt = 2 then (tf p_.toNatClampNeg).toInt else if (3 : Int32).toInt = 3 then zStp (kf p_.toNatClampNeg).toInt (af p_.toNatClampNeg).toInt else if 1 ≤ de.toInt ∧ (tf p_.toNatClampNeg).toInt ≤ se.toInt then 1 else 0)))) from by (obtain ⟨⟨y1, y2, y3⟩, y4, y5⟩ := hkku_6; have zs := hsr_16_0; first | exact Or.inr ⟨by omega, Or.inl ⟨by omega, by omega⟩⟩ | (refine Or.inr ⟨by omega, Or.inr ⟨by omega, ?_⟩⟩; rw [← y1, ← y2, ← y3]; (repeat (first | rw [if_pos (by omega)] | rw [if_neg (by omega)])); first | done | omega | rfl | (rw [if_pos ⟨by omega, by omega⟩]; omega) | (rw [if_neg (fun z => by (have z1 := z.1; have z2 := z.2; omega))]; omega)))), trivial⟩, zRet ht hP hD [0, 1, 2, 3] (by decide) rfl⟩, hS.F ht⟩) hS.2.2 dX7_pullOf_75
      · have kc4 : (4 : Int32).toInt = 4 := by decide
        refine lv_tableIn (tgt := 76) hx hb dX7_pullOf_20 (by decide) (by decide) rfl (by decide) ?_
        refine lv_aload_n hx hb dX7_pullOf_76 rfl (lv_at hl 1 rfl) ?_
        refine va_get (D := D) (ci := 7) (v := .ref j0) (C := RX7) (T := TX7) (N := 9) hx hb hts hi_X7_pullOf_7 hown hK hP 0 rfl rfl 1 (by decide) (hts (.fieldLink RX7 18 "TheLiningsInIt" "now" "LTheLiningsInIt$Jacket;") (List.mem_of_getElem? (i := 1) rfl)) (fun _ h9 => h9) rfl dX7_pullOf_77 ?_
        refine lv_aload_n hx hb dX7_pullOf_80 rfl (lv_at hl 0 rfl) ?_
        refine zc_V (As := [.ref u_6]) (rest := []) ⟨hx, hb, hml, hown, hts⟩ (c_J_mayBe l D cI cJ cZ cP cS po j0 jp jc z0 0 0 (cn) (de) (tr) (se) (hu) (sd) u_6 (kiu_6) (au_6) (tu_6) huu_6 ⟨by omega, by omega, by omega, by omega⟩ hy4 hy5 hy6 hy7 hy8 hy9) (cwV 1 hts gX7_pullOf_X0_mayBe rfl rfl rfl ⟨rfl, dh_X0_mayBe⟩ ⟨Nat.le_of_ble_eq_true rfl, Nat.le_of_ble_eq_true rfl⟩) hK hN (hZ.kept hS) hP (hP.sub [2] rfl) (va_recv (q := (RX0, TX0, 9)) hK hP (ci := 0) (q0 := 2) rfl rfl) rfl hl.1 rfl (Nat.le_of_ble_eq_true rfl) dX7_pullOf_81 ⟨Nat.le_of_ble_eq_true rfl, Nat.le_of_ble_eq_true rfl⟩ (fun r_19 hr_19 => ?_)
        rcases hr_19 with ⟨rfl, g_20⟩ | ⟨rfl, g_21, g_22⟩ | ⟨rfl, g_23, g_24⟩
        · refine lv_if_eq (tgt := 91) hx hb dX7_pullOf_84 (by decide) (fun c_25 => ?_) (fun c_25 => ?_)
          · refine lv_iconst (v := 0) hx hb dX7_pullOf_91 (by decide) ?_
            exact W.iret (v := 0) hx hb hr (fun t ht hW => ⟨⟨0, fr, rfl, ⟨(show ((p_.toInt < 0 ∨ cn.toInt ≤ p_.toInt) ∧ (0 : Int32).toInt = -5) ∨ ((0 ≤ p_.toInt ∧ p_.toInt < cn.toInt) ∧ ((((4 : Int32).toInt < 0 ∨ 4 < (4 : Int32).toInt) ∧ (0 : Int32).toInt = -5) ∨ ((0 ≤ (4 : Int32).toInt ∧ (4 : Int32).toInt ≤ 4) ∧ (0 : Int32).toInt = (if (4 : Int32).toInt = 0 then (kf p_.toNatClampNeg).toInt else if (4 : Int32).toInt = 1 then (af p_.toNatClampNeg).toInt else if (4 : Int32).toInt = 2 then (tf p_.toNatClampNeg).toInt else if (4 : Int32).toInt = 3 then zStp (kf p_.toNatClampNeg).toInt (af p_.toNatClampNeg).toInt else if 1 ≤ de.toInt ∧ (tf p_.toNatClampNeg).toInt ≤ se.toInt then 1 else 0)))) from by (have k9 : (0 : Int32).toInt = 0 := (by decide); obtain ⟨⟨y1, y2, y3⟩, y4, y5⟩ := hkku_6; first | exact Or.inr ⟨by omega, Or.inl ⟨by omega, by omega⟩⟩ | (refine Or.inr ⟨by omega, Or.inr ⟨by omega, ?_⟩⟩; rw [← y1, ← y2, ← y3]; (repeat (first | rw [if_pos (by omega)] | rw [if_neg (by omega)])); first | done | omega | rfl | (rw [if_pos ⟨by omega, by omega⟩]; omega) | (rw [if_neg (fun z => by (have z1 := z.1; have z2 := z.2; omega))]; omega)))), trivial⟩, zRet ht hP hD [0, 1, 2, 3] (by decide) rfl⟩, hS.F ht⟩) hS.2.2 dX7_pullOf_92
          · exact absurd c_25 (by decide)
        · refine lv_if_eq (tgt := 91) hx hb dX7_pullOf_84 (by decide) (fun c_26 => ?_) (fun c_26 => ?_)
          · refine lv_iconst (v := 0) hx hb dX7_pullOf_91 (by decide) ?_
            exact W.iret (v := 0) hx hb hr (fun t ht hW => ⟨⟨0, fr, rfl, ⟨(show ((p_.toInt < 0 ∨ cn.toInt ≤ p_.toInt) ∧ (0 : Int32).toInt = -5) ∨ ((0 ≤ p_.toInt ∧ p_.toInt < cn.toInt) ∧ ((((4 : Int32).toInt < 0 ∨ 4 < (4 : Int32).toInt) ∧ (0 : Int32).toInt = -5) ∨ ((0 ≤ (4 : Int32).toInt ∧ (4 : Int32).toInt ≤ 4) ∧ (0 : Int32).toInt = (if (4 : Int32).toInt = 0 then (kf p_.toNatClampNeg).toInt else if (4 : Int32).toInt = 1 then (af p_.toNatClampNeg).toInt else if (4 : Int32).toInt = 2 then (tf p_.toNatClampNeg).toInt else if (4 : Int32).toInt = 3 then zStp (kf p_.toNatClampNeg).toInt (af p_.toNatClampNeg).toInt else if 1 ≤ de.toInt ∧ (tf p_.toNatClampNeg).toInt ≤ se.toInt then 1 else 0)))) from by (have k9 : (0 : Int32).toInt = 0 := (by decide); obtain ⟨⟨y1, y2, y3⟩, y4, y5⟩ := hkku_6; first | exact Or.inr ⟨by omega, Or.inl ⟨by omega, by omega⟩⟩ | (refine Or.inr ⟨by omega, Or.inr ⟨by omega, ?_⟩⟩; rw [← y1, ← y2, ← y3]; (repeat (first | rw [if_pos (by omega)] | rw [if_neg (by omega)])); first | done | omega | rfl | (rw [if_pos ⟨by omega, by omega⟩]; omega) | (rw [if_neg (fun z => by (have z1 := z.1; have z2 := z.2; omega))]; omega)))), trivial⟩, zRet ht hP hD [0, 1, 2, 3] (by decide) rfl⟩, hS.F ht⟩) hS.2.2 dX7_pullOf_92
          · exact absurd c_26 (by decide)
        · refine lv_if_eq (tgt := 91) hx hb dX7_pullOf_84 (by decide) (fun c_27 => ?_) (fun c_27 => ?_)
          · exact absurd c_27 (by decide)
          · refine lv_iconst (v := 1) hx hb dX7_pullOf_87 (by decide) ?_
            refine lv_goto (tgt := 92) hx hb dX7_pullOf_88 (by decide) ?_
            exact W.iret (v := 1) hx hb hr (fun t ht hW => ⟨⟨1, fr, rfl, ⟨(show ((p_.toInt < 0 ∨ cn.toInt ≤ p_.toInt) ∧ (1 : Int32).toInt = -5) ∨ ((0 ≤ p_.toInt ∧ p_.toInt < cn.toInt) ∧ ((((4 : Int32).toInt < 0 ∨ 4 < (4 : Int32).toInt) ∧ (1 : Int32).toInt = -5) ∨ ((0 ≤ (4 : Int32).toInt ∧ (4 : Int32).toInt ≤ 4) ∧ (1 : Int32).toInt = (if (4 : Int32).toInt = 0 then (kf p_.toNatClampNeg).toInt else if (4 : Int32).toInt = 1 then (af p_.toNatClampNeg).toInt else if (4 : Int32).toInt = 2 then (tf p_.toNatClampNeg).toInt else if (4 : Int32).toInt = 3 then zStp (kf p_.toNatClampNeg).toInt (af p_.toNatClampNeg).toInt else if 1 ≤ de.toInt ∧ (tf p_.toNatClampNeg).toInt ≤ se.toInt then 1 else 0)))) from by (have k9 : (1 : Int32).toInt = 1 := (by decide); obtain ⟨⟨y1, y2, y3⟩, y4, y5⟩ := hkku_6; first | exact Or.inr ⟨by omega, Or.inl ⟨by omega, by omega⟩⟩ | (refine Or.inr ⟨by omega, Or.inr ⟨by omega, ?_⟩⟩; rw [← y1, ← y2, ← y3]; (repeat (first | rw [if_pos (by omega)] | rw [if_neg (by omega)])); first | done | omega | rfl | (rw [if_pos ⟨by omega, by omega⟩]; omega) | (rw [if_neg (fun z => by (have z1 := z.1; have z2 := z.2; omega))]; omega)))), trivial⟩, zRet ht hP hD [0, 1, 2, 3] (by decide) rfl⟩, hS.F ht⟩) hS.2.2 dX7_pullOf_92
set_option maxHeartbeats 4000000 in
set_option maxRecDepth 100000 in
theorem c_F_X_winter (l : Launch) (D : va_G) (cI cJ cZ cP cS : ClassId) (po : zPool) (x0 xs j0 k0 w0 rd mv xr : Nat) (im lf : Int32) (fr : Nat → Int32) (j0 jp jc z0 zl zs : Nat) (cn de tr se hu sd : Int32) (sz at_ gp : Int32) (wk wl wc wp : Nat) (wn wh wg : Int32) (fq : Nat → Option Nat) (fk fl fc fjc : Nat → Int32) (fp : Nat → Option Nat) (kf af tf : Nat → Int32) (zfl zfs : Nat → Int32) (n : Int32) (hy0 : 0 ≤ im.toInt) (hy1 : im.toInt ≤ 1) (hy2 : (-1) ≤ lf.toInt) (hy3 : lf.toInt ≤ 160) (hy4 : 0 ≤ cn.toInt) (hy5 : cn.toInt ≤ 8) (hy6 : 0 ≤ de.toInt) (hy7 : de.toInt ≤ 24) (hy8 : 0 ≤ hu.toInt) (hy9 : hu.toInt ≤ 9) (hy10 : 4 ≤ sz.toInt) (hy11 : sz.toInt ≤ 40) (hy12 : 0 ≤ at_.toInt) (hy13 : at_.toInt ≤ 40) (hy14 : 1 ≤ gp.toInt) (hy15 : gp.toInt ≤ 9) (hy16 : 0 ≤ wn.toInt) (hy17 : wn.toInt ≤ 8) (hy18 : 0 ≤ wh.toInt) (hy19 : wh.toInt ≤ 9) (hy20 : 0 ≤ wg.toInt) (hy21 : wg.toInt ≤ 60) (hwq : zWP po fq) (hjp : zJP po fp cn kf af tf) (hy24 : 0 ≤ se.toInt) (hy25 : se.toInt ≤ 300) (hy26 : at_.toInt ≤ sz.toInt) (hp_fc : zRg fc (0) 99) (hp_fjc : zRg fjc (0) 99) (hp_zfl : zRg zfl (0) 1) (hp_zfs : zRg zfs (0) 9) (hpz : Nat) : Met l yX7_winter wsX7_winter ({ frames := 8, cells := 0, slots := 0, locals := 199 }) (va_Pc [.ref x0, .int n] (zW D (zKT cI cJ cZ cP cS) po [(x0, .inr (7, [.ref xs, .ref j0, .ref k0, .ref w0, .ref rd, .ref mv, .ref xr, .int im, .int lf])), (xr, .inl (cI, 8, .inl fr)), (j0, .inr (0, [.ref z0, .ref jp, .ref jc, .int cn, .int de, .int tr, .int se, .int hu, .int sd])), (z0, .inr (6, [.ref zl, .ref zs, .int sz, .int at_, .int gp])), (w0, .inr (5, [.ref wk, .ref wl, .ref wc, .ref wp, .int wn, .int wh, .int wg])), (wk, .inl (cI, 125, .inl fk)), (wl, .inl (cI, 125, .inl fl)), (wc, .inl (cI, 3, .inl fc)), (wp, .inl (cP, 8, .inr (.inr (.inr (.inr fq))))), (jp, .inl (cP, 8, .inr (.inr (.inr (.inr fp))))), (jc, .inl (cI, 3, .inl fjc)), (zl, .inl (cZ, 40, .inl zfl)), (zs, .inl (cI, 40, .inl zfs))] hpz)) (va_Qi (fun (r : Int32) (u : (Int32) × (Int32) × (Int32) × (Nat → Int32) × (Nat → Int32) × (Nat → Int32) × (Nat → Option Nat) × (Int32) × (Int32) × (Int32) × (Int32) × (Int32) × (Nat → Int32)) => (0 ≤ u.1.toInt ∧ u.1.toInt ≤ 8) ∧ (0 ≤ u.2.1.toInt ∧ u.2.1.toInt ≤ 9) ∧ (0 ≤ u.2.2.1.toInt ∧ u.2.2.1.toInt ≤ 60) ∧ zRg u.2.2.2.2.2.1 (0) 99 ∧ zWP po u.2.2.2.2.2.2.1 ∧ (0 ≤ u.2.2.2.2.2.2.2.1.toInt ∧ u.2.2.2.2.2.2.2.1.toInt ≤ 24) ∧ (0 ≤ u.2.2.2.2.2.2.2.2.2.2.2.1.toInt ∧ u.2.2.2.2.2.2.2.2.2.2.2.1.toInt ≤ 40) ∧ (((n.toInt < 1 ∨ 60 < n.toInt) ∧ r.toInt = -6 ∧ u.2.2.2.2.2.2.2.2.2.2.2.1 = at_ ∧ u.2.2.2.2.2.2.2.1 = de ∧ u.2.2.2.2.2.2.2.2.2.1 = se ∧ u.2.2.2.2.2.2.2.2.1 = tr ∧ u.2.2.2.2.2.2.2.2.2.2.1 = sd) ∨ ((1 ≤ n.toInt ∧ n.toInt ≤ 60) ∧ zWi zfl zfs gp.toInt sz.toInt kf af tf cn.toInt.toNat hu.toInt n.toInt.toNat 0 at_.toInt de.toInt se.toInt tr sd = (r.toInt, u.2.2.2.2.2.2.2.2.2.2.2.1.toInt, u.2.2.2.2.2.2.2.1.toInt, u.2.2.2.2.2.2.2.2.2.1.toInt, u.2.2.2.2.2.2.2.2.1, u.2.2.2.2.2.2.2.2.2.2.1))) ∧ (u.2.2.2.2.2.2.2.2.2.2.2.1.toInt ≤ sz.toInt ∧ 0 ≤ u.2.2.2.2.2.2.2.2.2.1.toInt ∧ u.2.2.2.2.2.2.2.2.2.1.toInt ≤ 300) ∧ (True)) (zB D [(x0, .inr (7, [.ref xs, .ref j0, .ref k0, .ref w0, .ref rd, .ref mv, .ref xr, .int im, .int lf])), (xr, .inl (cI, 8, .inl fr)), (j0, .inr (0, [.ref z0, .ref jp, .ref jc, .int cn, .int de, .int tr, .int se, .int hu, .int sd])), (z0, .inr (6, [.ref zl, .ref zs, .int sz, .int at_, .int gp])), (w0, .inr (5, [.ref wk, .ref wl, .ref wc, .ref wp, .int wn, .int wh, .int wg])), (wk, .inl (cI, 125, .inl fk)), (wl, .inl (cI, 125, .inl fl)), (wc, .inl (cI, 3, .inl fc)), (wp, .inl (cP, 8, .inr (.inr (.inr (.inr fq))))), (jp, .inl (cP, 8, .inr (.inr (.inr (.inr fp))))), (jc, .inl (cI, 3, .inl fjc)), (zl, .inl (cZ, 40, .inl zfl)), (zs, .inl (cI, 40, .inl zfs))] hpz (fun (u : (Int32) × (Int32) × (Int32) × (Nat → Int32) × (Nat → Int32) × (Nat → Int32) × (Nat → Option Nat) × (Int32) × (Int32) × (Int32) × (Int32) × (Int32) × (Nat → Int32)) => [(x0, .inr (7, [.ref xs, .ref j0, .ref k0, .ref w0, .ref rd, .ref mv, .ref xr, .int im, .int lf])), (xr, .inl (cI, 8, .inl u.2.2.2.2.2.2.2.2.2.2.2.2)), (j0, .inr (0, [.ref z0, .ref jp, .ref jc, .int cn, .int u.2.2.2.2.2.2.2.1, .int u.2.2.2.2.2.2.2.2.1, .int u.2.2.2.2.2.2.2.2.2.1, .int hu, .int u.2.2.2.2.2.2.2.2.2.2.1])), (z0, .inr (6, [.ref zl, .ref zs, .int sz, .int u.2.2.2.2.2.2.2.2.2.2.2.1, .int gp])), (w0, .inr (5, [.ref wk, .ref wl, .ref wc, .ref wp, .int u.1, .int u.2.1, .int u.2.2.1])), (wk, .inl (cI, 125, .inl u.2.2.2.1)), (wl, .inl (cI, 125, .inl u.2.2.2.2.1)), (wc, .inl (cI, 3, .inl u.2.2.2.2.2.1)), (wp, .inl (cP, 8, .inr (.inr (.inr (.inr u.2.2.2.2.2.2.1))))), (jp, .inl (cP, 8, .inr (.inr (.inr (.inr fp))))), (jc, .inl (cI, 3, .inl fjc)), (zl, .inl (cZ, 40, .inl zfl)), (zs, .inl (cI, 40, .inl zfs))])) (va_A [(x0, .inr (7, [.ref xs, .ref j0, .ref k0, .ref w0, .ref rd, .ref mv, .ref xr, .int im, .int lf])), (xr, .inl (cI, 8, .inl fr)), (j0, .inr (0, [.ref z0, .ref jp, .ref jc, .int cn, .int de, .int tr, .int se, .int hu, .int sd])), (z0, .inr (6, [.ref zl, .ref zs, .int sz, .int at_, .int gp])), (w0, .inr (5, [.ref wk, .ref wl, .ref wc, .ref wp, .int wn, .int wh, .int wg])), (wk, .inl (cI, 125, .inl fk)), (wl, .inl (cI, 125, .inl fl)), (wc, .inl (cI, 3, .inl fc)), (wp, .inl (cP, 8, .inr (.inr (.inr (.inr fq))))), (jp, .inl (cP, 8, .inr (.inr (.inr (.inr fp))))), (jc, .inl (cI, 3, .inl fjc)), (zl, .inl (cZ, 40, .inl zfl)), (zs, .inl (cI, 40, .inl zfs))] hpz)) 0 0 (va_A [(x0, .inr (7, [.ref xs, .ref j0, .ref k0, .ref w0, .ref rd, .ref mv, .ref xr, .int im, .int lf])), (xr, .inl (cI, 8, .inl fr)), (j0, .inr (0, [.ref z0, .ref jp, .ref jc, .int cn, .int de, .int tr, .int se, .int hu, .int sd])), (z0, .inr (6, [.ref zl, .ref zs, .int sz, .int at_, .int gp])), (w0, .inr (5, [.ref wk, .ref wl, .ref wc, .ref wp, .int wn, .int wh, .int wg])), (wk, .inl (cI, 125, .inl fk)), (wl, .inl (cI, 125, .inl fl)), (wc, .inl (cI, 3, .inl fc)), (wp, .inl (cP, 8, .inr (.inr (.inr (.inr fq))))), (jp, .inl (cP, 8, .inr (.inr (.inr (.inr fp))))), (jc, .inl (cI, 3, .inl fjc)), (zl, .inl (cZ, 40, .inl zfl)), (zs, .inl (cI, 40, .inl zfs))] hpz) := by
  refine Met.ofW (cc := cX7_winter) (maxL := 4) (ret := (some .int)) (by decide) rfl ?_
  intro p e s m args below meth c s₁ B hml hv
  obtain ⟨rfl, hsz, hP, hK, hD0, hN, hZ⟩ := hv
  have hx := B.exec
  have hb := B.bytes
  have hr := B.returns
  have hts := atoms_spec (ws := wsX7_winter) B.pre
  have hown : s.vm.findClass RX7 = some m.cls := findClass_of_methodNamed B.named
  have hlocks := B.notSynchronized
  subst hsz
  have hD := hD0.self (sz := s.heap.size)
  have hA := zA_of hD
  have hl := lv_entry ([.ref x0, .int n]) (n := 4) (Nat.le_of_ble_eq_true rfl)
  rw [lg_entry_eq]
  generalize (lg_sl ([.ref x0, .int n]) ++ List.replicate (4 - (lg_sl ([.ref x0, .int n])).length) Slot.unset).toArray = ls at hl ⊢
  replace hl : lv_has ls 4 [(0, .ref x0), (1, .int n)] := hl
  refine zw_begin hP hD (fun H locs hP1 hS => ?_)
  clear hP
  have hP := hP1
  clear hP1
  refine lv_iload_n hx hb dX7_winter_0 rfl (lv_at hl 1 rfl) ?_
  refine lv_iconst (v := 1) hx hb dX7_winter_1 (by decide) ?_
  refine lv_bipush (v := 60) hx hb dX7_winter_2 (by decide) ?_
  have kc1 : (1 : Int32).toInt = 1 := by decide
  have kc60 : (60 : Int32).toInt = 60 := by decide
  refine zc_S (As := [.int n, .int 1, .int 60]) (rest := []) ⟨hx, hb, hml, hown, hts⟩ (c_within l D cI cJ cZ cP cS po (n) (1) (60) ) (va_cwS 3 hts gX7_winter_X7_within rfl rfl rfl dh_X7_within ⟨Nat.le_of_ble_eq_true rfl, Nat.le_of_ble_eq_true rfl⟩) hK hN (hZ.kept hS) rfl hl.1 rfl (Nat.le_of_ble_eq_true rfl) dX7_winter_4 ⟨Nat.le_of_ble_eq_true rfl, Nat.le_of_ble_eq_true rfl⟩ (fun r_1 hr_1 => ?_)
  rcases hr_1 with ⟨rfl, g_2⟩ | ⟨rfl, g_3, g_4⟩ | ⟨rfl, g_5, g_6⟩
  · refine lv_if_ne (tgt := 17) hx hb dX7_winter_7 (by decide) (fun c_7 => ?_) (fun c_7 => ?_)
    · exact absurd c_7 (by decide)
    · refine lv_aload_n hx hb dX7_winter_10 rfl (lv_at hl 0 rfl) ?_
      refine lv_bipush (v := 6) hx hb dX7_winter_11 (by decide) ?_
      skip
      refine zw_V (As := [.int 6]) (rest := []) (wr := [(j0, .inr (0, [.ref z0, .ref jp, .ref jc, .int cn, .int de, .int tr, .int se, .int hu, .int sd])), (z0, .inr (6, [.ref zl, .ref zs, .int sz, .int at_, .int gp])), (w0, .inr (5, [.ref wk, .ref wl, .ref wc, .ref wp, .int wn, .int wh, .int wg])), (wk, .inl (cI, 125, .inl fk)), (wl, .inl (cI, 125, .inl fl)), (wc, .inl (cI, 3, .inl fc)), (wp, .inl (cP, 8, .inr (.inr (.inr (.inr fq))))), (jp, .inl (cP, 8, .inr (.inr (.inr (.inr fp))))), (jc, .inl (cI, 3, .inl fjc)), (zl, .inl (cZ, 40, .inl zfl)), (zs, .inl (cI, 40, .inl zfs))]) ⟨hx, hb, hml, hown, hts⟩ (c_X_refuse_6 l D cI cJ cZ cP cS po x0 xs j0 k0 w0 rd mv xr (im) (lf) fr hy0 hy1 hy2 hy3 H.size) (cwV 1 hts gX7_winter_X7_refuse rfl rfl rfl ⟨rfl, dh_X7_refuse⟩ ⟨Nat.le_of_ble_eq_true rfl, Nat.le_of_ble_eq_true rfl⟩) hK hN (hZ.kept hS) hP hD hS hA [0, 1] [2, 3, 4, 5, 6, 7, 8, 9, 10, 11, 12] rfl rfl (by decide) (by decide) (by decide) (va_recv (q := (RX7, TX7, 9)) hK hP (ci := 7) (q0 := 0) rfl rfl) rfl hl.1 rfl (Nat.le_of_ble_eq_true rfl) dX7_winter_13 ⟨Nat.le_of_ble_eq_true rfl, Nat.le_of_ble_eq_true rfl⟩ (fun r_8 u_9 H locs hr_8 hP hD hS => ?_)
      obtain ⟨q_10, rfl⟩ : ∃ z, z = u_9 := ⟨_, rfl⟩
      have h9R := zRe (ws' := [(j0, .inr (0, [.ref z0, .ref jp, .ref jc, .int cn, .int de, .int tr, .int se, .int hu, .int sd])), (z0, .inr (6, [.ref zl, .ref zs, .int sz, .int at_, .int gp])), (w0, .inr (5, [.ref wk, .ref wl, .ref wc, .ref wp, .int wn, .int wh, .int wg])), (wk, .inl (cI, 125, .inl fk)), (wl, .inl (cI, 125, .inl fl)), (wc, .inl (cI, 3, .inl fc)), (wp, .inl (cP, 8, .inr (.inr (.inr (.inr fq))))), (jp, .inl (cP, 8, .inr (.inr (.inr (.inr fp))))), (jc, .inl (cI, 3, .inl fjc)), (zl, .inl (cZ, 40, .inl zfl)), (zs, .inl (cI, 40, .inl zfs)), (x0, .inr (7, [.ref xs, .ref j0, .ref k0, .ref w0, .ref rd, .ref mv, .ref xr, .int im, .int lf])), (xr, .inl (cI, 8, .inl q_10))]) hP hD rfl
      clear hP hD
      obtain ⟨hP, hD⟩ := h9R
      obtain rfl := hr_8
      exact W.iret (v := (-6)) hx hb hr (fun t ht hW => ⟨⟨(-6), (wn, wh, wg, fk, fl, fc, fq, de, tr, se, sd, at_, q_10), rfl, ⟨(show 0 ≤ wn.toInt ∧ wn.toInt ≤ 8 from ⟨hy16, hy17⟩), (show 0 ≤ wh.toInt ∧ wh.toInt ≤ 9 from ⟨hy18, hy19⟩), (show 0 ≤ wg.toInt ∧ wg.toInt ≤ 60 from ⟨hy20, hy21⟩), hp_fc, hwq, (show 0 ≤ de.toInt ∧ de.toInt ≤ 24 from ⟨hy6, hy7⟩), (show 0 ≤ at_.toInt ∧ at_.toInt ≤ 40 from ⟨hy12, hy13⟩), (show ((n.toInt < 1 ∨ 60 < n.toInt) ∧ ((-6) : Int32).toInt = -6 ∧ at_ = at_ ∧ de = de ∧ se = se ∧ tr = tr ∧ sd = sd) ∨ ((1 ≤ n.toInt ∧ n.toInt ≤ 60) ∧ zWi zfl zfs gp.toInt sz.toInt kf af tf cn.toInt.toNat hu.toInt n.toInt.toNat 0 at_.toInt de.toInt se.toInt tr sd = (((-6) : Int32).toInt, at_.toInt, de.toInt, se.toInt, tr, sd)) from by (have k9 : ((-6) : Int32).toInt = -6 := (by decide); exact Or.inl ⟨by omega, by omega, rfl, rfl, rfl, rfl, rfl⟩)), (show at_.toInt ≤ sz.toInt ∧ 0 ≤ se.toInt ∧ se.toInt ≤ 300 from by exact ⟨by omega, by omega, by omega⟩), trivial⟩, zRet ht hP hD [11, 12, 0, 1, 2, 3, 4, 5, 6, 7, 8, 9, 10] (by decide) rfl⟩, hS.F ht⟩) hS.2.2 dX7_winter_16
  · refine lv_if_ne (tgt := 17) hx hb dX7_winter_7 (by decide) (fun c_11 => ?_) (fun c_11 => ?_)
    · exact absurd c_11 (by decide)
    · refine lv_aload_n hx hb dX7_winter_10 rfl (lv_at hl 0 rfl) ?_
      refine lv_bipush (v := 6) hx hb dX7_winter_11 (by decide) ?_
      skip
      refine zw_V (As := [.int 6]) (rest := []) (wr := [(j0, .inr (0, [.ref z0, .ref jp, .ref jc, .int cn, .int de, .int tr, .int se, .int hu, .int sd])), (z0, .inr (6, [.ref zl, .ref zs, .int sz, .int at_, .int gp])), (w0, .inr (5, [.ref wk, .ref wl, .ref wc, .ref wp, .int wn, .int wh, .int wg])), (wk, .inl (cI, 125, .inl fk)), (wl, .inl (cI, 125, .inl fl)), (wc, .inl (cI, 3, .inl fc)), (wp, .inl (cP, 8, .inr (.inr (.inr (.inr fq))))), (jp, .inl (cP, 8, .inr (.inr (.inr (.inr fp))))), (jc, .inl (cI, 3, .inl fjc)), (zl, .inl (cZ, 40, .inl zfl)), (zs, .inl (cI, 40, .inl zfs))]) ⟨hx, hb, hml, hown, hts⟩ (c_X_refuse_6 l D cI cJ cZ cP cS po x0 xs j0 k0 w0 rd mv xr (im) (lf) fr hy0 hy1 hy2 hy3 H.size) (cwV 1 hts gX7_winter_X7_refuse rfl rfl rfl ⟨rfl, dh_X7_refuse⟩ ⟨Nat.le_of_ble_eq_true rfl, Nat.le_of_ble_eq_true rfl⟩) hK hN (hZ.kept hS) hP hD hS hA [0, 1] [2, 3, 4, 5, 6, 7, 8, 9, 10, 11, 12] rfl rfl (by decide) (by decide) (by decide) (va_recv (q := (RX7, TX7, 9)) hK hP (ci := 7) (q0 := 0) rfl rfl) rfl hl.1 rfl (Nat.le_of_ble_eq_true rfl) dX7_winter_13 ⟨Nat.le_of_ble_eq_true rfl, Nat.le_of_ble_eq_true rfl⟩ (fun r_12 u_13 H locs hr_12 hP hD hS => ?_)
      obtain ⟨q_14, rfl⟩ : ∃ z, z = u_13 := ⟨_, rfl⟩
      have h9R := zRe (ws' := [(j0, .inr (0, [.ref z0, .ref jp, .ref jc, .int cn, .int de, .int tr, .int se, .int hu, .int sd])), (z0, .inr (6, [.ref zl, .ref zs, .int sz, .int at_, .int gp])), (w0, .inr (5, [.ref wk, .ref wl, .ref wc, .ref wp, .int wn, .int wh, .int wg])), (wk, .inl (cI, 125, .inl fk)), (wl, .inl (cI, 125, .inl fl)), (wc, .inl (cI, 3, .inl fc)), (wp, .inl (cP, 8, .inr (.inr (.inr (.inr fq))))), (jp, .inl (cP, 8, .inr (.inr (.inr (.inr fp))))), (jc, .inl (cI, 3, .inl fjc)), (zl, .inl (cZ, 40, .inl zfl)), (zs, .inl (cI, 40, .inl zfs)), (x0, .inr (7, [.ref xs, .ref j0, .ref k0, .ref w0, .ref rd, .ref mv, .ref xr, .int im, .int lf])), (xr, .inl (cI, 8, .inl q_14))]) hP hD rfl
      clear hP hD
      obtain ⟨hP, hD⟩ := h9R
      obtain rfl := hr_12
      exact W.iret (v := (-6)) hx hb hr (fun t ht hW => ⟨⟨(-6), (wn, wh, wg, fk, fl, fc, fq, de, tr, se, sd, at_, q_14), rfl, ⟨(show 0 ≤ wn.toInt ∧ wn.toInt ≤ 8 from ⟨hy16, hy17⟩), (show 0 ≤ wh.toInt ∧ wh.toInt ≤ 9 from ⟨hy18, hy19⟩), (show 0 ≤ wg.toInt ∧ wg.toInt ≤ 60 from ⟨hy20, hy21⟩), hp_fc, hwq, (show 0 ≤ de.toInt ∧ de.toInt ≤ 24 from ⟨hy6, hy7⟩), (show 0 ≤ at_.toInt ∧ at_.toInt ≤ 40 from ⟨hy12, hy13⟩), (show ((n.toInt < 1 ∨ 60 < n.toInt) ∧ ((-6) : Int32).toInt = -6 ∧ at_ = at_ ∧ de = de ∧ se = se ∧ tr = tr ∧ sd = sd) ∨ ((1 ≤ n.toInt ∧ n.toInt ≤ 60) ∧ zWi zfl zfs gp.toInt sz.toInt kf af tf cn.toInt.toNat hu.toInt n.toInt.toNat 0 at_.toInt de.toInt se.toInt tr sd = (((-6) : Int32).toInt, at_.toInt, de.toInt, se.toInt, tr, sd)) from by (have k9 : ((-6) : Int32).toInt = -6 := (by decide); exact Or.inl ⟨by omega, by omega, rfl, rfl, rfl, rfl, rfl⟩)), (show at_.toInt ≤ sz.toInt ∧ 0 ≤ se.toInt ∧ se.toInt ≤ 300 from by exact ⟨by omega, by omega, by omega⟩), trivial⟩, zRet ht hP hD [11, 12, 0, 1, 2, 3, 4, 5, 6, 7, 8, 9, 10] (by decide) rfl⟩, hS.F ht⟩) hS.2.2 dX7_winter_16
  · refine lv_if_ne (tgt := 17) hx hb dX7_winter_7 (by decide) (fun c_15 => ?_) (fun c_15 => ?_)
    · refine lv_aload_n hx hb dX7_winter_17 rfl (lv_at hl 0 rfl) ?_
      refine va_get (D := D) (ci := 7) (v := .ref w0) (C := RX7) (T := TX7) (N := 9) hx hb hts hi_X7_winter_7 hown hK hP 0 rfl rfl 3 (by decide) (hts (.fieldLink RX7 28 "TheLiningsInIt" "ways" "LTheLiningsInIt$Ways;") (List.mem_of_getElem? (i := 1) rfl)) (fun _ h9 => h9) rfl dX7_winter_18 ?_
      refine lv_aload_n hx hb dX7_winter_21 rfl (lv_at hl 0 rfl) ?_
      refine va_get (D := D) (ci := 7) (v := .ref j0) (C := RX7) (T := TX7) (N := 9) hx hb hts hi_X7_winter_7 hown hK hP 0 rfl rfl 1 (by decide) (hts (.fieldLink RX7 18 "TheLiningsInIt" "now" "LTheLiningsInIt$Jacket;") (List.mem_of_getElem? (i := 2) rfl)) (fun _ h9 => h9) rfl dX7_winter_22 ?_
      refine lv_aload_n hx hb dX7_winter_25 rfl (lv_at hl 0 rfl) ?_
      refine va_get (D := D) (ci := 7) (v := .ref j0) (C := RX7) (T := TX7) (N := 9) hx hb hts hi_X7_winter_7 hown hK hP 0 rfl rfl 1 (by decide) (hts (.fieldLink RX7 18 "TheLiningsInIt" "now" "LTheLiningsInIt$Jacket;") (List.mem_of_getElem? (i := 2) rfl)) (fun _ h9 => h9) rfl dX7_winter_26 ?_
      refine va_get (D := D) (ci := 0) (v := .int hu) (C := RX0) (T := TX0) (N := 9) hx hb hts hi_X7_winter_0 hown hK hP 2 rfl rfl 7 (by decide) (hts (.fieldLink RX7 116 "TheLiningsInIt$Jacket" "hurry" "I") (List.mem_of_getElem? (i := 3) rfl)) (fun _ h9 => h9) rfl dX7_winter_29 ?_
      refine lv_iconst (v := 1) hx hb dX7_winter_32 (by decide) ?_
      skip
      refine zw_Vv (As := [.ref j0, .int hu, .int 1]) (rest := []) (wr := [(x0, .inr (7, [.ref xs, .ref j0, .ref k0, .ref w0, .ref rd, .ref mv, .ref xr, .int im, .int lf])), (xr, .inl (cI, 8, .inl fr)), (z0, .inr (6, [.ref zl, .ref zs, .int sz, .int at_, .int gp])), (zl, .inl (cZ, 40, .inl zfl)), (zs, .inl (cI, 40, .inl zfs))]) ⟨hx, hb, hml, hown, hts⟩ (c_F_W_look l D cI cJ cZ cP cS po w0 wk wl wc wp (wn) (wh) (wg) j0 jp jc z0 0 0 (cn) (de) (tr) (se) (hu) (sd) fp fq kf af tf fk fl fc fjc (hu) (1) hy16 hy17 hy18 hy19 hy20 hy21 hy4 hy5 hy6 hy7 hy8 hy9 hy8 hy9 hwq hjp hp_fc hp_fjc H.size) (cwV 3 hts gX7_winter_X5_look rfl rfl rfl ⟨rfl, dh_X5_look⟩ ⟨Nat.le_of_ble_eq_true rfl, Nat.le_of_ble_eq_true rfl⟩) hK hN (hZ.kept hS) hP hD hS hA [4, 5, 6, 7, 8, 2, 9, 10] [0, 1, 3, 11, 12] rfl rfl (by decide) (by decide) (by decide) (va_recv (q := (RX5, TX5, 7)) hK hP (ci := 5) (q0 := 4) rfl rfl) rfl hl.1 rfl (Nat.le_of_ble_eq_true rfl) dX7_winter_33 ⟨Nat.le_of_ble_eq_true rfl, Nat.le_of_ble_eq_true rfl⟩ (fun u_17 H locs hr_16 hP hD hS => ?_)
      obtain ⟨q_18, q_19, q_20, q_21, q_22, q_23, q_24⟩ := u_17
      try dsimp only at hr_16
      obtain ⟨hbq_18, hbq_19, hbq_20, hpq_23, hwq_24, hsr_16_0, hsr_16_1, hsr_16_2, hsr_16_3, hsr_16_4, hsr_16_5, hr_16⟩ := hr_16
      have h9R := zRe (ws' := [(x0, .inr (7, [.ref xs, .ref j0, .ref k0, .ref w0, .ref rd, .ref mv, .ref xr, .int im, .int lf])), (xr, .inl (cI, 8, .inl fr)), (z0, .inr (6, [.ref zl, .ref zs, .int sz, .int at_, .int gp])), (zl, .inl (cZ, 40, .inl zfl)), (zs, .inl (cI, 40, .inl zfs)), (w0, .inr (5, [.ref wk, .ref wl, .ref wc, .ref wp, .int q_18, .int q_19, .int q_20])), (wk, .inl (cI, 125, .inl q_21)), (wl, .inl (cI, 125, .inl q_22)), (wc, .inl (cI, 3, .inl q_23)), (wp, .inl (cP, 8, .inr (.inr (.inr (.inr q_24))))), (j0, .inr (0, [.ref z0, .ref jp, .ref jc, .int cn, .int de, .int tr, .int se, .int hu, .int sd])), (jp, .inl (cP, 8, .inr (.inr (.inr (.inr fp))))), (jc, .inl (cI, 3, .inl fjc))]) hP hD rfl
      clear hP hD
      obtain ⟨hP, hD⟩ := h9R
      obtain ⟨ewn, ewh⟩ := hsr_16_2
      have ewn9 := congrArg Int32.toInt ewn
      have ewh9 := congrArg Int32.toInt ewh
      have hjw9 : zJW po q_24 q_18 kf af tf (1 : Int32) := by (intro j hj; exact hsr_16_0 j (by rw [← ewn]; exact hj))
      have hkm9 : zKm kf af tf q_18.toInt.toNat q_19.toInt (1 : Int32).toInt q_20.toInt q_21 := zKm_0 hsr_16_4
      have hgl9 : ∀ p : Nat, p < q_18.toInt.toNat → ((1 : Int32).toInt ≠ 0 ∨ (kf p).toInt ≠ 5) → (tf p).toInt ≤ q_20.toInt := fun p hp hl => hsr_16_1 p (by rw [ewn] at hp; omega) hl
      have hkn9 : zKn kf af tf q_18.toInt.toNat q_19.toInt (q_23 0).toInt (q_23 1).toInt (q_23 2).toInt q_20.toInt q_22 := zKn_0 hsr_16_5
      have hgk9 : ∀ p : Nat, p < q_18.toInt.toNat → (tf p).toInt ≤ q_20.toInt := fun p hp => hgl9 p hp (Or.inl (by decide))
      refine lv_iconst (v := 0) hx hb dX7_winter_36 (by decide) ?_
      refine lv_istore_n (lv' := [(2, .int 0), (0, .ref x0), (1, .int n)]) hx hb dX7_winter_37 rfl hl (by decide) rfl (fun ls hl => ?_)
      refine lv_iconst (v := 0) hx hb dX7_winter_38 (by decide) ?_
      refine lv_istore_n (lv' := [(3, .int 0), (2, .int 0), (0, .ref x0), (1, .int n)]) hx hb dX7_winter_39 rfl hl (by decide) rfl (fun ls hl => ?_)
      obtain ⟨i_40, hi_40⟩ : ∃ i : Int32, i = 0 := ⟨_, rfl⟩
      replace hl : lv_has ls 4 [(3, .int i_40), (2, .int 0), (0, .ref x0), (1, .int n)] := by rw [hi_40]; exact lv_sub hl [0, 1, 2, 3] rfl
      have h1i_40 : i_40.toInt = 0 := by rw [hi_40]; decide
      obtain ⟨nfu, hni_40⟩ : ∃ nq9 : Nat, n.toInt ≤ i_40.toInt + (nq9 : Int) := ⟨((n.toInt : Int) - 0).toNat, by omega⟩
      have hloi_40 : 0 ≤ i_40.toInt := by omega
      obtain ⟨g_25, hg_25⟩ : ∃ g : Nat → Int32, g = q_21 := ⟨_, rfl⟩
      obtain ⟨v_26, hv_26⟩ : ∃ g : Int32, g = de := ⟨_, rfl⟩
      have hbv_26 : 0 ≤ v_26.toInt ∧ v_26.toInt ≤ 24 := by rw [hv_26]; exact ⟨by omega, by omega⟩
      obtain ⟨v_27, hv_27⟩ : ∃ g : Int32, g = tr := ⟨_, rfl⟩
      obtain ⟨v_28, hv_28⟩ : ∃ g : Int32, g = se := ⟨_, rfl⟩
      have hbv_28 : 0 ≤ v_28.toInt ∧ v_28.toInt ≤ 300 := by rw [hv_28]; exact ⟨by omega, by omega⟩
      obtain ⟨v_29, hv_29⟩ : ∃ g : Int32, g = sd := ⟨_, rfl⟩
      obtain ⟨v_30, hv_30⟩ : ∃ g : Int32, g = at_ := ⟨_, rfl⟩
      have hbv_30 : 0 ≤ v_30.toInt ∧ v_30.toInt ≤ 40 := by rw [hv_30]; exact ⟨by omega, by omega⟩
      replace hP : va_P D vwCl [(x0, .inr (7, [.ref xs, .ref j0, .ref k0, .ref w0, .ref rd, .ref mv, .ref xr, .int im, .int lf])), (xr, .inl (cI, 8, .inl fr)), (z0, .inr (6, [.ref zl, .ref zs, .int sz, .int v_30, .int gp])), (zl, .inl (cZ, 40, .inl zfl)), (zs, .inl (cI, 40, .inl zfs)), (w0, .inr (5, [.ref wk, .ref wl, .ref wc, .ref wp, .int q_18, .int q_19, .int q_20])), (wk, .inl (cI, 125, .inl g_25)), (wl, .inl (cI, 125, .inl q_22)), (wc, .inl (cI, 3, .inl q_23)), (wp, .inl (cP, 8, .inr (.inr (.inr (.inr q_24))))), (j0, .inr (0, [.ref z0, .ref jp, .ref jc, .int cn, .int v_26, .int v_27, .int v_28, .int hu, .int v_29])), (jp, .inl (cP, 8, .inr (.inr (.inr (.inr fp))))), (jc, .inl (cI, 3, .inl fjc))] H := by rw [hg_25, hv_26, hv_27, hv_28, hv_29, hv_30]; exact hP
      replace hD : va_D (va_A [(x0, .inr (7, [.ref xs, .ref j0, .ref k0, .ref w0, .ref rd, .ref mv, .ref xr, .int im, .int lf])), (xr, .inl (cI, 8, .inl fr)), (j0, .inr (0, [.ref z0, .ref jp, .ref jc, .int cn, .int de, .int tr, .int se, .int hu, .int sd])), (z0, .inr (6, [.ref zl, .ref zs, .int sz, .int at_, .int gp])), (w0, .inr (5, [.ref wk, .ref wl, .ref wc, .ref wp, .int wn, .int wh, .int wg])), (wk, .inl (cI, 125, .inl fk)), (wl, .inl (cI, 125, .inl fl)), (wc, .inl (cI, 3, .inl fc)), (wp, .inl (cP, 8, .inr (.inr (.inr (.inr fq))))), (jp, .inl (cP, 8, .inr (.inr (.inr (.inr fp))))), (jc, .inl (cI, 3, .inl fjc)), (zl, .inl (cZ, 40, .inl zfl)), (zs, .inl (cI, 40, .inl zfs))] s.heap.size) [(x0, .inr (7, [.ref xs, .ref j0, .ref k0, .ref w0, .ref rd, .ref mv, .ref xr, .int im, .int lf])), (xr, .inl (cI, 8, .inl fr)), (z0, .inr (6, [.ref zl, .ref zs, .int sz, .int v_30, .int gp])), (zl, .inl (cZ, 40, .inl zfl)), (zs, .inl (cI, 40, .inl zfs)), (w0, .inr (5, [.ref wk, .ref wl, .ref wc, .ref wp, .int q_18, .int q_19, .int q_20])), (wk, .inl (cI, 125, .inl g_25)), (wl, .inl (cI, 125, .inl q_22)), (wc, .inl (cI, 3, .inl q_23)), (wp, .inl (cP, 8, .inr (.inr (.inr (.inr q_24))))), (j0, .inr (0, [.ref z0, .ref jp, .ref jc, .int cn, .int v_26, .int v_27, .int v_28, .int hu, .int v_29])), (jp, .inl (cP, 8, .inr (.inr (.inr (.inr fp))))), (jc, .inl (cI, 3, .inl fjc))] := by rw [hg_25, hv_26, hv_27, hv_28, hv_29, hv_30]; exact hD
      obtain ⟨v_31, hv_31⟩ : ∃ g : Int32, g = 0 := ⟨_, rfl⟩
      replace hl : lv_has ls 4 [(3, .int i_40), (2, .int v_31), (0, .ref x0), (1, .int n)] := by rw [hv_31]; exact hl
      have hbv_31 : 0 ≤ v_31.toInt ∧ v_31.toInt ≤ 60 := by rw [hv_31]; exact ⟨by decide, by decide⟩
      have hvi_40_0 : zWi zfl zfs gp.toInt sz.toInt kf af tf cn.toInt.toNat hu.toInt n.toInt.toNat 0 at_.toInt de.toInt se.toInt tr sd = zWi zfl zfs gp.toInt sz.toInt kf af tf cn.toInt.toNat hu.toInt (n.toInt - i_40.toInt).toNat (v_31 : Int32).toInt (v_30 : Int32).toInt (v_26 : Int32).toInt (v_28 : Int32).toInt (v_27 : Int32) (v_29 : Int32) := by
        (try rw [hi_40]); (try rw [hg_25]); (try rw [hv_26]); (try rw [hv_27]); (try rw [hv_28]); (try rw [hv_29]); (try rw [hv_30]); (try rw [hv_31]); (rw [show (0 : Int32).toInt = 0 from by decide, Int.sub_zero])
      have hvi_40_1 : zKm kf af tf q_18.toInt.toNat q_19.toInt (1 : Int32).toInt q_20.toInt g_25 := by
        (try rw [hi_40]); (try rw [hg_25]); (try rw [hv_26]); (try rw [hv_27]); (try rw [hv_28]); (try rw [hv_29]); (try rw [hv_30]); (try rw [hv_31]); exact hkm9
      have hvi_40_2 : i_40.toInt ≤ n.toInt ∧ (v_31 : Int32).toInt ≤ i_40.toInt ∧ (v_30 : Int32).toInt ≤ sz.toInt := by
        (try rw [hi_40]); (try rw [hg_25]); (try rw [hv_26]); (try rw [hv_27]); (try rw [hv_28]); (try rw [hv_29]); (try rw [hv_30]); (try rw [hv_31]); (have k0 : (0 : Int32).toInt = 0 := (by decide); omega)
      clear h1i_40 hi_40 hg_25 hv_26 hv_27 hv_28 hv_29 hv_30 hv_31
      skip
      revert hni_40
      revert hloi_40
      revert hvi_40_2
      revert hvi_40_1
      revert hvi_40_0
      revert hbv_31
      revert hbv_30
      revert hbv_28
      revert hbv_26
      revert hl
      revert hS
      revert hD
      revert hP
      revert ls
      revert locs
      revert H
      revert g_25
      revert v_26
      revert v_27
      revert v_28
      revert v_29
      revert v_30
      revert v_31
      revert i_40
      induction nfu with
      | zero =>
        intro i_40 v_31 v_30 v_29 v_28 v_27 v_26 g_25 H locs ls hP hD hS hl hbv_26 hbv_28 hbv_30 hbv_31 hvi_40_0 hvi_40_1 hvi_40_2 hloi_40 hni_40
        have hzi_40 : n.toInt ≤ i_40.toInt := by omega
        refine lv_iload_n hx hb dX7_winter_40 rfl (lv_at hl 0 rfl) ?_
        refine lv_iload_n hx hb dX7_winter_41 rfl (lv_at hl 3 rfl) ?_
        refine lv_icmp_ge (tgt := 68) hx hb dX7_winter_42 (by decide) (fun c_32 => ?_) (fun c_32 => ?_)
        · have fc_32 : n.toInt ≤ i_40.toInt := zf_le c_32 rfl rfl
          refine lv_iload_n hx hb dX7_winter_68 rfl (lv_at hl 1 rfl) ?_
          exact W.iret (v := v_31) hx hb hr (fun t ht hW => ⟨⟨v_31, (q_18, q_19, q_20, g_25, q_22, q_23, q_24, v_26, v_27, v_28, v_29, v_30, fr), rfl, ⟨(show 0 ≤ q_18.toInt ∧ q_18.toInt ≤ 8 from hbq_18), (show 0 ≤ q_19.toInt ∧ q_19.toInt ≤ 9 from hbq_19), (show 0 ≤ q_20.toInt ∧ q_20.toInt ≤ 60 from hbq_20), hpq_23, hwq_24, (show 0 ≤ v_26.toInt ∧ v_26.toInt ≤ 24 from hbv_26), (show 0 ≤ v_30.toInt ∧ v_30.toInt ≤ 40 from hbv_30), (show ((n.toInt < 1 ∨ 60 < n.toInt) ∧ (v_31 : Int32).toInt = -6 ∧ v_30 = at_ ∧ v_26 = de ∧ v_28 = se ∧ v_27 = tr ∧ v_29 = sd) ∨ ((1 ≤ n.toInt ∧ n.toInt ≤ 60) ∧ zWi zfl zfs gp.toInt sz.toInt kf af tf cn.toInt.toNat hu.toInt n.toInt.toNat 0 at_.toInt de.toInt se.toInt tr sd = ((v_31 : Int32).toInt, v_30.toInt, v_26.toInt, v_28.toInt, v_27, v_29)) from by (refine Or.inr ⟨by omega, ?_⟩; rw [hvi_40_0, show (n.toInt - i_40.toInt).toNat = 0 from by omega]; rfl)), (show v_30.toInt ≤ sz.toInt ∧ 0 ≤ v_28.toInt ∧ v_28.toInt ≤ 300 from by exact ⟨by omega, by omega, by omega⟩), trivial⟩, zRet ht hP hD [0, 1, 10, 2, 5, 6, 7, 8, 9, 11, 12, 3, 4] (by decide) rfl⟩, hS.F ht⟩) hS.2.2 dX7_winter_69
        · exfalso; have fc_32 : i_40.toInt < n.toInt := zf_nle c_32 rfl rfl; omega
      | succ nfu ih =>
        intro i_40 v_31 v_30 v_29 v_28 v_27 v_26 g_25 H locs ls hP hD hS hl hbv_26 hbv_28 hbv_30 hbv_31 hvi_40_0 hvi_40_1 hvi_40_2 hloi_40 hni_40
        refine lv_iload_n hx hb dX7_winter_40 rfl (lv_at hl 0 rfl) ?_
        refine lv_iload_n hx hb dX7_winter_41 rfl (lv_at hl 3 rfl) ?_
        refine lv_icmp_ge (tgt := 68) hx hb dX7_winter_42 (by decide) (fun c_33 => ?_) (fun c_33 => ?_)
        · have fc_33 : n.toInt ≤ i_40.toInt := zf_le c_33 rfl rfl
          refine lv_iload_n hx hb dX7_winter_68 rfl (lv_at hl 1 rfl) ?_
          exact W.iret (v := v_31) hx hb hr (fun t ht hW => ⟨⟨v_31, (q_18, q_19, q_20, g_25, q_22, q_23, q_24, v_26, v_27, v_28, v_29, v_30, fr), rfl, ⟨(show 0 ≤ q_18.toInt ∧ q_18.toInt ≤ 8 from hbq_18), (show 0 ≤ q_19.toInt ∧ q_19.toInt ≤ 9 from hbq_19), (show 0 ≤ q_20.toInt ∧ q_20.toInt ≤ 60 from hbq_20), hpq_23, hwq_24, (show 0 ≤ v_26.toInt ∧ v_26.toInt ≤ 24 from hbv_26), (show 0 ≤ v_30.toInt ∧ v_30.toInt ≤ 40 from hbv_30), (show ((n.toInt < 1 ∨ 60 < n.toInt) ∧ (v_31 : Int32).toInt = -6 ∧ v_30 = at_ ∧ v_26 = de ∧ v_28 = se ∧ v_27 = tr ∧ v_29 = sd) ∨ ((1 ≤ n.toInt ∧ n.toInt ≤ 60) ∧ zWi zfl zfs gp.toInt sz.toInt kf af tf cn.toInt.toNat hu.toInt n.toInt.toNat 0 at_.toInt de.toInt se.toInt tr sd = ((v_31 : Int32).toInt, v_30.toInt, v_26.toInt, v_28.toInt, v_27, v_29)) from by (refine Or.inr ⟨by omega, ?_⟩; rw [hvi_40_0, show (n.toInt - i_40.toInt).toNat = 0 from by omega]; rfl)), (show v_30.toInt ≤ sz.toInt ∧ 0 ≤ v_28.toInt ∧ v_28.toInt ≤ 300 from by exact ⟨by omega, by omega, by omega⟩), trivial⟩, zRet ht hP hD [0, 1, 10, 2, 5, 6, 7, 8, 9, 11, 12, 3, 4] (by decide) rfl⟩, hS.F ht⟩) hS.2.2 dX7_winter_69
        · have fc_33 : i_40.toInt < n.toInt := zf_nle c_33 rfl rfl
          refine lv_aload_n hx hb dX7_winter_45 rfl (lv_at hl 2 rfl) ?_
          refine va_get (D := D) (ci := 7) (v := .ref j0) (C := RX7) (T := TX7) (N := 9) hx hb hts hi_X7_winter_7 hown hK hP 0 rfl rfl 1 (by decide) (hts (.fieldLink RX7 18 "TheLiningsInIt" "now" "LTheLiningsInIt$Jacket;") (List.mem_of_getElem? (i := 2) rfl)) (fun _ h9 => h9) rfl dX7_winter_46 ?_
          refine lv_aload_n hx hb dX7_winter_49 rfl (lv_at hl 2 rfl) ?_
          refine va_get (D := D) (ci := 7) (v := .ref w0) (C := RX7) (T := TX7) (N := 9) hx hb hts hi_X7_winter_7 hown hK hP 0 rfl rfl 3 (by decide) (hts (.fieldLink RX7 28 "TheLiningsInIt" "ways" "LTheLiningsInIt$Ways;") (List.mem_of_getElem? (i := 1) rfl)) (fun _ h9 => h9) rfl dX7_winter_50 ?_
          skip
          refine zw_V (As := [.ref w0]) (rest := []) (wr := [(x0, .inr (7, [.ref xs, .ref j0, .ref k0, .ref w0, .ref rd, .ref mv, .ref xr, .int im, .int lf])), (xr, .inl (cI, 8, .inl fr)), (wl, .inl (cI, 125, .inl q_22)), (wc, .inl (cI, 3, .inl q_23)), (jc, .inl (cI, 3, .inl fjc))]) ⟨hx, hb, hml, hown, hts⟩ (c_F_J_dayInTruth l D cI cJ cZ cP cS po w0 wk wl wc wp (q_18) (q_19) (q_20) j0 jp jc z0 zl zs (cn) (v_26) (v_27) (v_28) (hu) (v_29) (sz) (v_30) (gp) zfl zfs fp q_24 kf af tf (1) g_25 hbq_18.1 hbq_18.2 hbq_19.1 hbq_19.2 hbq_20.1 hbq_20.2 hy4 hy5 hbv_26.1 hbv_26.2 hy8 hy9 hy10 hy11 hbv_30.1 hbv_30.2 hy14 hy15 hjw9 (by first | assumption | omega) (by first | assumption | omega) (by omega) (by omega) (by first | assumption | omega | decide) hjp hp_zfl hp_zfs H.size) (cwV 1 hts gX7_winter_X0_dayInTruth rfl rfl rfl ⟨rfl, dh_X0_dayInTruth⟩ ⟨Nat.le_of_ble_eq_true rfl, Nat.le_of_ble_eq_true rfl⟩) hK hN (hZ.kept hS) hP hD hS hA [5, 6, 9, 10, 11, 2, 3, 4] [0, 1, 7, 8, 12] rfl rfl (by decide) (by decide) (by decide) (va_recv (q := (RX0, TX0, 9)) hK hP (ci := 0) (q0 := 10) rfl rfl) rfl hl.1 rfl (Nat.le_of_ble_eq_true rfl) dX7_winter_53 ⟨Nat.le_of_ble_eq_true rfl, Nat.le_of_ble_eq_true rfl⟩ (fun r_34 u_35 H locs hr_34 hP hD hS => ?_)
          obtain ⟨q_36, q_37, q_38, q_39, q_40, q_41⟩ := u_35
          try dsimp only at hr_34
          obtain ⟨hbq_36, hbq_40, hsr_34_0, hsr_34_1, hsr_34_2, hr_34⟩ := hr_34
          have h9R := zRe (ws' := [(x0, .inr (7, [.ref xs, .ref j0, .ref k0, .ref w0, .ref rd, .ref mv, .ref xr, .int im, .int lf])), (xr, .inl (cI, 8, .inl fr)), (wl, .inl (cI, 125, .inl q_22)), (wc, .inl (cI, 3, .inl q_23)), (jc, .inl (cI, 3, .inl fjc)), (w0, .inr (5, [.ref wk, .ref wl, .ref wc, .ref wp, .int q_18, .int q_19, .int q_20])), (wk, .inl (cI, 125, .inl q_41)), (wp, .inl (cP, 8, .inr (.inr (.inr (.inr q_24))))), (j0, .inr (0, [.ref z0, .ref jp, .ref jc, .int cn, .int q_36, .int q_37, .int q_38, .int hu, .int q_39])), (jp, .inl (cP, 8, .inr (.inr (.inr (.inr fp))))), (z0, .inr (6, [.ref zl, .ref zs, .int sz, .int q_40, .int gp])), (zl, .inl (cZ, 40, .inl zfl)), (zs, .inl (cI, 40, .inl zfs))]) hP hD rfl
          clear hP hD
          obtain ⟨hP, hD⟩ := h9R
          obtain ⟨g_42, g_43⟩ := hr_34
          refine lv_if_eq (tgt := 62) hx hb dX7_winter_56 (by decide) (fun c_44 => ?_) (fun c_44 => ?_)
          · have fc_44 : r_34.toInt = 0 := zf_eq c_44 rfl (by decide)
            obtain ⟨x_45, ex_45⟩ : ∃ y : Int32, y = i_40 + 1 := ⟨_, rfl⟩
            have qx_45 : x_45.toInt = i_40.toInt + 1 := dw_inc ex_45 fc_33
            refine lv_iinc (v := x_45) (lv' := [(3, .int x_45), (2, .int v_31), (0, .ref x0), (1, .int n)]) hx hb dX7_winter_62 hl (k := 0) rfl ex_45.symm (by decide) rfl (fun ls hl => ?_)
            refine lv_goto (tgt := 40) hx hb dX7_winter_65 (by decide) ?_
            exact ih x_45 v_31 (q_40) (q_39) (q_38) (q_37) (q_36) (q_41) _ _ _ (hP.sub [0, 1, 10, 11, 12, 5, 6, 2, 3, 7, 8, 9, 4] rfl) (hD.sub [0, 1, 10, 11, 12, 5, 6, 2, 3, 7, 8, 9, 4] (by decide) rfl) hS (lv_sub hl [0, 1, 2, 3] rfl) hbq_36 ⟨by omega, by omega⟩ hbq_40 hbv_31 (show zWi zfl zfs gp.toInt sz.toInt kf af tf cn.toInt.toNat hu.toInt n.toInt.toNat 0 at_.toInt de.toInt se.toInt tr sd = zWi zfl zfs gp.toInt sz.toInt kf af tf cn.toInt.toNat hu.toInt (n.toInt - x_45.toInt).toNat (v_31 : Int32).toInt (q_40 : Int32).toInt (q_36 : Int32).toInt (q_38 : Int32).toInt (q_37 : Int32) (q_39 : Int32) from by (rw [hvi_40_0, show (n.toInt - i_40.toInt).toNat = (n.toInt - x_45.toInt).toNat + 1 from by omega, zWi_s hsr_34_0]; congr 1; omega)) (show zKm kf af tf q_18.toInt.toNat q_19.toInt (1 : Int32).toInt q_20.toInt q_41 from by exact hsr_34_1) (show x_45.toInt ≤ n.toInt ∧ (v_31 : Int32).toInt ≤ x_45.toInt ∧ (q_40 : Int32).toInt ≤ sz.toInt from by exact ⟨by omega, by omega, by omega⟩) (dw_lo hloi_40 qx_45) (dw_hn hni_40 qx_45)
          · have fc_44 : r_34.toInt ≠ 0 := zf_ne c_44 rfl (by decide)
            obtain ⟨x_46, ex_46⟩ : ∃ y : Int32, y = v_31 + 1 := ⟨_, rfl⟩
            have qx_46 : x_46.toInt = v_31.toInt + 1 := by rw [ex_46]; exact zf_add rfl (by decide) (by omega) (by omega)
            refine lv_iinc (v := x_46) (lv' := [(2, .int x_46), (3, .int i_40), (0, .ref x0), (1, .int n)]) hx hb dX7_winter_59 hl (k := 1) rfl ex_46.symm (by decide) rfl (fun ls hl => ?_)
            obtain ⟨x_47, ex_47⟩ : ∃ y : Int32, y = i_40 + 1 := ⟨_, rfl⟩
            have qx_47 : x_47.toInt = i_40.toInt + 1 := dw_inc ex_47 fc_33
            refine lv_iinc (v := x_47) (lv' := [(3, .int x_47), (2, .int x_46), (0, .ref x0), (1, .int n)]) hx hb dX7_winter_62 hl (k := 1) rfl ex_47.symm (by decide) rfl (fun ls hl => ?_)
            refine lv_goto (tgt := 40) hx hb dX7_winter_65 (by decide) ?_
            exact ih x_47 x_46 (q_40) (q_39) (q_38) (q_37) (q_36) (q_41) _ _ _ (hP.sub [0, 1, 10, 11, 12, 5, 6, 2, 3, 7, 8, 9, 4] rfl) (hD.sub [0, 1, 10, 11, 12, 5, 6, 2, 3, 7, 8, 9, 4] (by decide) rfl) hS (lv_sub hl [0, 1, 2, 3] rfl) hbq_36 ⟨by omega, by omega⟩ hbq_40 ⟨by omega, by omega⟩ (show zWi zfl zfs gp.toInt sz.toInt kf af tf cn.toInt.toNat hu.toInt n.toInt.toNat 0 at_.toInt de.toInt se.toInt tr sd = zWi zfl zfs gp.toInt sz.toInt kf af tf cn.toInt.toNat hu.toInt (n.toInt - x_47.toInt).toNat (x_46 : Int32).toInt (q_40 : Int32).toInt (q_36 : Int32).toInt (q_38 : Int32).toInt (q_37 : Int32) (q_39 : Int32) from by (rw [hvi_40_0, show (n.toInt - i_40.toInt).toNat = (n.toInt - x_47.toInt).toNat + 1 from by omega, zWi_s hsr_34_0]; congr 1; omega)) (show zKm kf af tf q_18.toInt.toNat q_19.toInt (1 : Int32).toInt q_20.toInt q_41 from by exact hsr_34_1) (show x_47.toInt ≤ n.toInt ∧ (x_46 : Int32).toInt ≤ x_47.toInt ∧ (q_40 : Int32).toInt ≤ sz.toInt from by exact ⟨by omega, by omega, by omega⟩) (dw_lo hloi_40 qx_47) (dw_hn hni_40 qx_47)
    · exact absurd c_15 (by decide)
end
section
set_option maxHeartbeats 4000000 in
set_option maxRecDepth 100000 in
theorem c_F_X_firstWrong (l : Launch) (D : va_G) (cI cJ cZ cP cS : ClassId) (po : zPool) (x0 xs j0 k0 w0 rd mv xr : Nat) (im lf : Int32) (fr : Nat → Int32) (j0 jp jc z0 zl zs : Nat) (cn de tr se hu sd : Int32) (fp : Nat → Option Nat) (kf af tf : Nat → Int32) (h0 e0 : Nat) (he si : Int32) (fe : Nat → Int64) (n : Int32) (hy0 : 0 ≤ im.toInt) (hy1 : im.toInt ≤ 1) (hy2 : (-1) ≤ lf.toInt) (hy3 : lf.toInt ≤ 160) (hy4 : 0 ≤ cn.toInt) (hy5 : cn.toInt ≤ 8) (hy6 : 0 ≤ de.toInt) (hy7 : de.toInt ≤ 24) (hy8 : 0 ≤ hu.toInt) (hy9 : hu.toInt ≤ 9) (hy10 : (-1) ≤ he.toInt) (hy11 : he.toInt ≤ 103) (hy12 : 0 ≤ si.toInt) (hy13 : si.toInt ≤ 160) (hjp : zJP po fp cn kf af tf) (hy15 : 0 ≤ se.toInt) (hy16 : se.toInt ≤ 300) (hy17 : 0 ≤ n.toInt) (hy18 : n.toInt ≤ 20) (hy19 : n.toInt ≤ si.toInt) : Met l yX7_firstWrong wsX7_firstWrong ({ frames := 2, cells := 0, slots := 0, locals := 44 }) (va_Pc [.ref x0, .ref h0, .int n] (zR D (zKT cI cJ cZ cP cS) po [(x0, .inr (7, [.ref xs, .ref j0, .ref k0, .ref w0, .ref rd, .ref mv, .ref xr, .int im, .int lf])), (j0, .inr (0, [.ref z0, .ref jp, .ref jc, .int cn, .int de, .int tr, .int se, .int hu, .int sd])), (jp, .inl (cP, 8, .inr (.inr (.inr (.inr fp))))), (h0, .inr (4, [.ref e0, .int he, .int si])), (e0, .inl (cJ, 160, .inr (.inl fe)))])) (vp_Si (fun r => (r.toInt = zJg kf af tf cn.toInt hu.toInt fe n.toInt.toNat 0 de.toInt se.toInt))) 0 0 (fun _ => False) := by
  refine Met.ofW (cc := cX7_firstWrong) (maxL := 8) (ret := (some .int)) (by decide) rfl ?_
  intro p e s m args below meth c s₁ B hml hv
  obtain ⟨rfl, hP, hK, hN, hZ⟩ := hv
  have hx := B.exec
  have hb := B.bytes
  have hr := B.returns
  have hts := atoms_spec (ws := wsX7_firstWrong) B.pre
  have hown : s.vm.findClass RX7 = some m.cls := findClass_of_methodNamed B.named
  have hlocks := B.notSynchronized
  have hl := lv_entry ([.ref x0, .ref h0, .int n]) (n := 8) (Nat.le_of_ble_eq_true rfl)
  rw [lg_entry_eq]
  generalize (lg_sl ([.ref x0, .ref h0, .int n]) ++ List.replicate (8 - (lg_sl ([.ref x0, .ref h0, .int n])).length) Slot.unset).toArray = ls at hl ⊢
  replace hl : lv_has ls 8 [(0, .ref x0), (1, .ref h0), (2, .int n)] := hl
  refine lv_aload_n hx hb dX7_firstWrong_0 rfl (lv_at hl 0 rfl) ?_
  refine va_get (D := D) (ci := 7) (v := .ref j0) (C := RX7) (T := TX7) (N := 9) hx hb hts hi_X7_firstWrong_7 hown hK hP 0 rfl rfl 1 (by decide) (hts (.fieldLink RX7 18 "TheLiningsInIt" "now" "LTheLiningsInIt$Jacket;") (List.mem_of_getElem? (i := 1) rfl)) (fun _ h9 => h9) rfl dX7_firstWrong_1 ?_
  refine va_get (D := D) (ci := 0) (v := .int de) (C := RX0) (T := TX0) (N := 9) hx hb hts hi_X7_firstWrong_0 hown hK hP 1 rfl rfl 4 (by decide) (hts (.fieldLink RX7 199 "TheLiningsInIt$Jacket" "depth" "I") (List.mem_of_getElem? (i := 2) rfl)) (fun _ h9 => h9) rfl dX7_firstWrong_4 ?_
  refine lv_istore_n (lv' := [(3, .int de), (0, .ref x0), (1, .ref h0), (2, .int n)]) hx hb dX7_firstWrong_7 rfl hl (by decide) rfl (fun ls hl => ?_)
  refine lv_aload_n hx hb dX7_firstWrong_8 rfl (lv_at hl 1 rfl) ?_
  refine va_get (D := D) (ci := 7) (v := .ref j0) (C := RX7) (T := TX7) (N := 9) hx hb hts hi_X7_firstWrong_7 hown hK hP 0 rfl rfl 1 (by decide) (hts (.fieldLink RX7 18 "TheLiningsInIt" "now" "LTheLiningsInIt$Jacket;") (List.mem_of_getElem? (i := 1) rfl)) (fun _ h9 => h9) rfl dX7_firstWrong_9 ?_
  refine va_get (D := D) (ci := 0) (v := .int se) (C := RX0) (T := TX0) (N := 9) hx hb hts hi_X7_firstWrong_0 hown hK hP 1 rfl rfl 6 (by decide) (hts (.fieldLink RX7 202 "TheLiningsInIt$Jacket" "seconds" "I") (List.mem_of_getElem? (i := 3) rfl)) (fun _ h9 => h9) rfl dX7_firstWrong_12 ?_
  refine lv_istore (lv' := [(4, .int se), (3, .int de), (0, .ref x0), (1, .ref h0), (2, .int n)]) hx hb dX7_firstWrong_15 hl (by decide) rfl (fun ls hl => ?_)
  refine lv_iconst (v := 0) hx hb dX7_firstWrong_17 (by decide) ?_
  refine lv_istore (lv' := [(5, .int 0), (4, .int se), (3, .int de), (0, .ref x0), (1, .ref h0), (2, .int n)]) hx hb dX7_firstWrong_18 hl (by decide) rfl (fun ls hl => ?_)
  obtain ⟨i_20, hi_20⟩ : ∃ i : Int32, i = 0 := ⟨_, rfl⟩
  replace hl : lv_has ls 8 [(5, .int i_20), (4, .int se), (3, .int de), (0, .ref x0), (1, .ref h0), (2, .int n)] := by rw [hi_20]; exact lv_sub hl [0, 1, 2, 3, 4, 5] rfl
  have h1i_20 : i_20.toInt = 0 := by rw [hi_20]; decide
  obtain ⟨nfu, hni_20⟩ : ∃ nq9 : Nat, n.toInt ≤ i_20.toInt + (nq9 : Int) := ⟨((n.toInt : Int) - 0).toNat, by omega⟩
  have hloi_20 : 0 ≤ i_20.toInt := by omega
  obtain ⟨v_1, hv_1⟩ : ∃ g : Int32, g = de := ⟨_, rfl⟩
  obtain ⟨v_2, hv_2⟩ : ∃ g : Int32, g = se := ⟨_, rfl⟩
  replace hl : lv_has ls 8 [(5, .int i_20), (4, .int v_2), (3, .int v_1), (0, .ref x0), (1, .ref h0), (2, .int n)] := by rw [hv_1, hv_2]; exact hl
  have hbv_1 : 0 ≤ v_1.toInt ∧ v_1.toInt ≤ 24 := by rw [hv_1]; exact ⟨by omega, by omega⟩
  have hbv_2 : 0 ≤ v_2.toInt ∧ v_2.toInt ≤ 300 := by rw [hv_2]; exact ⟨by omega, by omega⟩
  have hvi_20_0 : zJg kf af tf cn.toInt hu.toInt fe n.toInt.toNat 0 de.toInt se.toInt = zJg kf af tf cn.toInt hu.toInt fe (n.toInt - i_20.toInt).toNat i_20.toInt (v_1 : Int32).toInt (v_2 : Int32).toInt := by
    (try rw [hi_20]); (try rw [hv_1]); (try rw [hv_2]); (rw [show (0 : Int32).toInt = 0 from by decide, Int.sub_zero])
  have hvi_20_1 : i_20.toInt ≤ n.toInt := by
    (try rw [hi_20]); (try rw [hv_1]); (try rw [hv_2]); (have k0 : (0 : Int32).toInt = 0 := (by decide); omega)
  clear h1i_20 hi_20 hv_1 hv_2
  revert hni_20
  revert hloi_20
  revert hvi_20_1
  revert hvi_20_0
  revert hbv_2
  revert hbv_1
  revert hl
  revert ls
  revert v_2
  revert v_1
  revert i_20
  induction nfu with
  | zero =>
    intro i_20 v_1 v_2 ls hl hbv_1 hbv_2 hvi_20_0 hvi_20_1 hloi_20 hni_20
    have hzi_20 : n.toInt ≤ i_20.toInt := by omega
    refine lv_iload hx hb dX7_firstWrong_20 (lv_at hl 0 rfl) ?_
    refine lv_iload_n hx hb dX7_firstWrong_22 rfl (lv_at hl 5 rfl) ?_
    refine lv_icmp_ge (tgt := 129) hx hb dX7_firstWrong_23 (by decide) (fun c_3 => ?_) (fun c_3 => ?_)
    · have fc_3 : n.toInt ≤ i_20.toInt := zf_le c_3 rfl rfl
      refine lv_iconst (v := (-1)) hx hb dX7_firstWrong_129 (by decide) ?_
      exact W.iret (v := (-1)) hx hb hr (fun t ht hW => ⟨(-1), rfl, (show ((-1) : Int32).toInt = zJg kf af tf cn.toInt hu.toInt fe n.toInt.toNat 0 de.toInt se.toInt from by (have k9 : ((-1) : Int32).toInt = -1 := (by decide); rw [hvi_20_0, show (n.toInt - i_20.toInt).toNat = 0 from by omega]; exact k9)), ht⟩) (fun q hq => by cases hq) dX7_firstWrong_130
    · exfalso; have fc_3 : i_20.toInt < n.toInt := zf_nle c_3 rfl rfl; omega
  | succ nfu ih =>
    intro i_20 v_1 v_2 ls hl hbv_1 hbv_2 hvi_20_0 hvi_20_1 hloi_20 hni_20
    refine lv_iload hx hb dX7_firstWrong_20 (lv_at hl 0 rfl) ?_
    refine lv_iload_n hx hb dX7_firstWrong_22 rfl (lv_at hl 5 rfl) ?_
    refine lv_icmp_ge (tgt := 129) hx hb dX7_firstWrong_23 (by decide) (fun c_4 => ?_) (fun c_4 => ?_)
    · have fc_4 : n.toInt ≤ i_20.toInt := zf_le c_4 rfl rfl
      refine lv_iconst (v := (-1)) hx hb dX7_firstWrong_129 (by decide) ?_
      exact W.iret (v := (-1)) hx hb hr (fun t ht hW => ⟨(-1), rfl, (show ((-1) : Int32).toInt = zJg kf af tf cn.toInt hu.toInt fe n.toInt.toNat 0 de.toInt se.toInt from by (have k9 : ((-1) : Int32).toInt = -1 := (by decide); rw [hvi_20_0, show (n.toInt - i_20.toInt).toNat = 0 from by omega]; exact k9)), ht⟩) (fun q hq => by cases hq) dX7_firstWrong_130
    · have fc_4 : i_20.toInt < n.toInt := zf_nle c_4 rfl rfl
      refine lv_aload_n hx hb dX7_firstWrong_26 rfl (lv_at hl 3 rfl) ?_
      refine va_get (D := D) (ci := 7) (v := .ref j0) (C := RX7) (T := TX7) (N := 9) hx hb hts hi_X7_firstWrong_7 hown hK hP 0 rfl rfl 1 (by decide) (hts (.fieldLink RX7 18 "TheLiningsInIt" "now" "LTheLiningsInIt$Jacket;") (List.mem_of_getElem? (i := 1) rfl)) (fun _ h9 => h9) rfl dX7_firstWrong_27 ?_
      refine lv_aload_n hx hb dX7_firstWrong_30 rfl (lv_at hl 4 rfl) ?_
      refine lv_iload hx hb dX7_firstWrong_31 (lv_at hl 0 rfl) ?_
      refine zc_V (As := [.int i_20]) (rest := [.ref j0]) ⟨hx, hb, hml, hown, hts⟩ (c_F_Sh_tells l D cI cJ cZ cP cS po h0 e0 (he) (si) fe (i_20) hy10 hy11 hy12 hy13) (cwV 1 hts gX7_firstWrong_X4_tells rfl rfl rfl ⟨rfl, dh_X4_tells⟩ ⟨Nat.le_of_ble_eq_true rfl, Nat.le_of_ble_eq_true rfl⟩) hK hN hZ hP (hP.sub [3, 4] rfl) (va_recv (q := (RX4, TX4, 3)) hK hP (ci := 4) (q0 := 3) rfl rfl) rfl hl.1 rfl (Nat.le_of_ble_eq_true rfl) dX7_firstWrong_33 ⟨Nat.le_of_ble_eq_true rfl, Nat.le_of_ble_eq_true rfl⟩ (fun r_5 hr_5 => ?_)
      have hsr_5_0 := hr_5
      refine zc_Vq (As := [.int r_5]) (rest := []) ⟨hx, hb, hml, hown, hts⟩ (c_F_J_pullAt l D cI cJ cZ cP cS po j0 jp jc z0 0 0 (cn) (de) (tr) (se) (hu) (sd) fp kf af tf (r_5) hy4 hy5 hy6 hy7 hy8 hy9 hjp) (cwV 1 hts gX7_firstWrong_X0_pullAt rfl rfl rfl ⟨rfl, dh_X0_pullAt⟩ ⟨Nat.le_of_ble_eq_true rfl, Nat.le_of_ble_eq_true rfl⟩) hK hN hZ hP (hP.sub [1, 2] rfl) (va_recv (q := (RX0, TX0, 9)) hK hP (ci := 0) (q0 := 1) rfl rfl) rfl hl.1 rfl (Nat.le_of_ble_eq_true rfl) dX7_firstWrong_36 ⟨Nat.le_of_ble_eq_true rfl, Nat.le_of_ble_eq_true rfl⟩ (fun r_6 hr_6 => ?_)
      rcases hr_6 with ⟨rfl, g_7⟩ | ⟨rfl, g_8, g_9⟩ | ⟨⟨u_11, kiu_11, au_11, tu_11, rfl, huu_11, hkku_11⟩, g_10⟩
      · refine lv_astoreN (lv' := [(6, .null), (5, .int i_20), (4, .int v_2), (3, .int v_1), (0, .ref x0), (1, .ref h0), (2, .int n)]) hx hb dX7_firstWrong_39 hl (by decide) rfl (fun ls hl => ?_)
        refine lv_aloadN hx hb dX7_firstWrong_41 (lv_at hl 0 rfl) ?_
        refine lv_ifnullN (tgt := 57) hx hb dX7_firstWrong_43 (by decide) ?_
        refine lv_iload hx hb dX7_firstWrong_57 (lv_at hl 1 rfl) ?_
        exact W.iret (v := i_20) hx hb hr (fun t ht hW => ⟨i_20, rfl, (show (i_20 : Int32).toInt = zJg kf af tf cn.toInt hu.toInt fe n.toInt.toNat 0 de.toInt se.toInt from by (have zt : zTl fe i_20.toInt = r_5.toInt := (by have z := hsr_5_0 (by omega) (by omega); unfold zTl; rw [show i_20.toInt.toNat = i_20.toNatClampNeg from rfl, ← z]); have y9 : r_5.toNatClampNeg = r_5.toInt.toNat := rfl; have hk : (n.toInt - i_20.toInt).toNat = (n.toInt - (i_20.toInt + 1)).toNat + 1 := (by omega); rw [hvi_20_0, hk, zJg_s, zt, if_neg (fun z => by (have z2 := z.1; omega))])), ht⟩) (fun q hq => by cases hq) dX7_firstWrong_59
      · refine lv_astoreN (lv' := [(6, .null), (5, .int i_20), (4, .int v_2), (3, .int v_1), (0, .ref x0), (1, .ref h0), (2, .int n)]) hx hb dX7_firstWrong_39 hl (by decide) rfl (fun ls hl => ?_)
        refine lv_aloadN hx hb dX7_firstWrong_41 (lv_at hl 0 rfl) ?_
        refine lv_ifnullN (tgt := 57) hx hb dX7_firstWrong_43 (by decide) ?_
        refine lv_iload hx hb dX7_firstWrong_57 (lv_at hl 1 rfl) ?_
        exact W.iret (v := i_20) hx hb hr (fun t ht hW => ⟨i_20, rfl, (show (i_20 : Int32).toInt = zJg kf af tf cn.toInt hu.toInt fe n.toInt.toNat 0 de.toInt se.toInt from by (have zt : zTl fe i_20.toInt = r_5.toInt := (by have z := hsr_5_0 (by omega) (by omega); unfold zTl; rw [show i_20.toInt.toNat = i_20.toNatClampNeg from rfl, ← z]); have y9 : r_5.toNatClampNeg = r_5.toInt.toNat := rfl; have hk : (n.toInt - i_20.toInt).toNat = (n.toInt - (i_20.toInt + 1)).toNat + 1 := (by omega); rw [hvi_20_0, hk, zJg_s, zt, if_neg (fun z => by (have z2 := z.1; omega))])), ht⟩) (fun q hq => by cases hq) dX7_firstWrong_59
      · refine W.eq (g2 := F0 m 39 ls (.ref u_11 :: [])) rfl ?_
        obtain ⟨hku_11, hau_11, htu_11⟩ := zPu_pr hZ huu_11
        refine lv_astore (lv' := [(6, .ref u_11), (5, .int i_20), (4, .int v_2), (3, .int v_1), (0, .ref x0), (1, .ref h0), (2, .int n)]) hx hb dX7_firstWrong_39 hl (by decide) rfl (fun ls hl => ?_)
        refine lv_aload hx hb dX7_firstWrong_41 (lv_at hl 0 rfl) ?_
        refine lv_ifnull hx hb dX7_firstWrong_43 ?_
        refine lv_aload hx hb dX7_firstWrong_46 (lv_at hl 0 rfl) ?_
        refine lv_iload_n hx hb dX7_firstWrong_48 rfl (lv_at hl 3 rfl) ?_
        refine lv_iload hx hb dX7_firstWrong_49 (lv_at hl 2 rfl) ?_
        refine zc_V (As := [.int v_1, .int v_2]) (rest := []) ⟨hx, hb, hml, hown, hts⟩ (c_Pull_mayBe l D cI cJ cZ cP cS po (v_1) (v_2) u_11 (kiu_11) (au_11) (tu_11) huu_11 ⟨by omega, by omega, by omega, by omega⟩) (cwV 2 hts gX7_firstWrong_X2_mayBe rfl rfl rfl ⟨rfl, dh_X2_mayBe⟩ ⟨Nat.le_of_ble_eq_true rfl, Nat.le_of_ble_eq_true rfl⟩) hK hN hZ hP zP_nil (va_recv (q := (RX2, TX2, 3)) hK (zPu_P hZ huu_11) (ci := 2) (q0 := 0) rfl rfl) rfl hl.1 rfl (Nat.le_of_ble_eq_true rfl) dX7_firstWrong_51 ⟨Nat.le_of_ble_eq_true rfl, Nat.le_of_ble_eq_true rfl⟩ (fun r_12 hr_12 => ?_)
        rcases hr_12 with ⟨rfl, g_13⟩ | ⟨rfl, g_14, g_15⟩ | ⟨rfl, g_16, g_17⟩
        · refine lv_if_ne (tgt := 60) hx hb dX7_firstWrong_54 (by decide) (fun c_18 => ?_) (fun c_18 => ?_)
          · exact absurd c_18 (by decide)
          · refine lv_iload hx hb dX7_firstWrong_57 (lv_at hl 1 rfl) ?_
            exact W.iret (v := i_20) hx hb hr (fun t ht hW => ⟨i_20, rfl, (show (i_20 : Int32).toInt = zJg kf af tf cn.toInt hu.toInt fe n.toInt.toNat 0 de.toInt se.toInt from by (have zt : zTl fe i_20.toInt = r_5.toInt := (by have z := hsr_5_0 (by omega) (by omega); unfold zTl; rw [show i_20.toInt.toNat = i_20.toNatClampNeg from rfl, ← z]); have y9 : r_5.toNatClampNeg = r_5.toInt.toNat := rfl; have hk : (n.toInt - i_20.toInt).toNat = (n.toInt - (i_20.toInt + 1)).toNat + 1 := (by omega); obtain ⟨⟨y1, y2, y3⟩, y4, y5⟩ := hkku_11; rw [y9] at y1 y2 y3; rw [hvi_20_0, hk, zJg_s, zt, if_neg (fun z => by (have z2 := z.2.2; have z3 := z.2.1; rw [← y3] at z2; omega))])), ht⟩) (fun q hq => by cases hq) dX7_firstWrong_59
        · refine lv_if_ne (tgt := 60) hx hb dX7_firstWrong_54 (by decide) (fun c_19 => ?_) (fun c_19 => ?_)
          · exact absurd c_19 (by decide)
          · refine lv_iload hx hb dX7_firstWrong_57 (lv_at hl 1 rfl) ?_
            exact W.iret (v := i_20) hx hb hr (fun t ht hW => ⟨i_20, rfl, (show (i_20 : Int32).toInt = zJg kf af tf cn.toInt hu.toInt fe n.toInt.toNat 0 de.toInt se.toInt from by (have zt : zTl fe i_20.toInt = r_5.toInt := (by have z := hsr_5_0 (by omega) (by omega); unfold zTl; rw [show i_20.toInt.toNat = i_20.toNatClampNeg from rfl, ← z]); have y9 : r_5.toNatClampNeg = r_5.toInt.toNat := rfl; have hk : (n.toInt - i_20.toInt).toNat = (n.toInt - (i_20.toInt + 1)).toNat + 1 := (by omega); obtain ⟨⟨y1, y2, y3⟩, y4, y5⟩ := hkku_11; rw [y9] at y1 y2 y3; rw [hvi_20_0, hk, zJg_s, zt, if_neg (fun z => by (have z2 := z.2.2; have z3 := z.2.1; rw [← y3] at z2; omega))])), ht⟩) (fun q hq => by cases hq) dX7_firstWrong_59
        · refine lv_if_ne (tgt := 60) hx hb dX7_firstWrong_54 (by decide) (fun c_20 => ?_) (fun c_20 => ?_)
          · refine lv_aload hx hb dX7_firstWrong_60 (lv_at hl 0 rfl) ?_
            refine lv_iload_n hx hb dX7_firstWrong_62 rfl (lv_at hl 3 rfl) ?_
            refine lv_aload_n hx hb dX7_firstWrong_63 rfl (lv_at hl 4 rfl) ?_
            refine va_get (D := D) (ci := 7) (v := .ref j0) (C := RX7) (T := TX7) (N := 9) hx hb hts hi_X7_firstWrong_7 hown hK hP 0 rfl rfl 1 (by decide) (hts (.fieldLink RX7 18 "TheLiningsInIt" "now" "LTheLiningsInIt$Jacket;") (List.mem_of_getElem? (i := 1) rfl)) (fun _ h9 => h9) rfl dX7_firstWrong_64 ?_
            refine va_get (D := D) (ci := 0) (v := .int hu) (C := RX0) (T := TX0) (N := 9) hx hb hts hi_X7_firstWrong_0 hown hK hP 1 rfl rfl 7 (by decide) (hts (.fieldLink RX7 116 "TheLiningsInIt$Jacket" "hurry" "I") (List.mem_of_getElem? (i := 4) rfl)) (fun _ h9 => h9) rfl dX7_firstWrong_67 ?_
            refine zc_V (As := [.int v_1, .int hu]) (rest := []) ⟨hx, hb, hml, hown, hts⟩ (c_F_Pull_waysAt l D cI cJ cZ cP cS po (v_1) (hu) u_11 (kiu_11) (au_11) (tu_11) huu_11 ⟨by omega, by omega, by omega, by omega⟩ hbv_1.1 hbv_1.2 hy8 hy9) (cwV 2 hts gX7_firstWrong_X2_waysAt rfl rfl rfl ⟨rfl, dh_X2_waysAt⟩ ⟨Nat.le_of_ble_eq_true rfl, Nat.le_of_ble_eq_true rfl⟩) hK hN hZ hP zP_nil (va_recv (q := (RX2, TX2, 3)) hK (zPu_P hZ huu_11) (ci := 2) (q0 := 0) rfl rfl) rfl hl.1 rfl (Nat.le_of_ble_eq_true rfl) dX7_firstWrong_70 ⟨Nat.le_of_ble_eq_true rfl, Nat.le_of_ble_eq_true rfl⟩ (fun r_21 hr_21 => ?_)
            obtain ⟨g_22, g_23, hsr_21_0⟩ := hr_21
            refine lv_bipush (v := 6) hx hb dX7_firstWrong_73 (by decide) ?_
            refine lv_icmp_lt (tgt := 82) hx hb dX7_firstWrong_75 (by decide) (fun c_24 => ?_) (fun c_24 => ?_)
            · have fc_24 : r_21.toInt < 6 := zf_lt c_24 rfl (by decide)
              refine lv_iconst (v := 0) hx hb dX7_firstWrong_82 (by decide) ?_
              refine lv_istore (lv' := [(7, .int 0), (6, .ref u_11), (5, .int i_20), (4, .int v_2), (3, .int v_1), (0, .ref x0), (1, .ref h0), (2, .int n)]) hx hb dX7_firstWrong_83 hl (by decide) rfl (fun ls hl => ?_)
              refine lv_iload hx hb dX7_firstWrong_85 (lv_at hl 0 rfl) ?_
              refine lv_if_eq (tgt := 99) hx hb dX7_firstWrong_87 (by decide) (fun c_25 => ?_) (fun c_25 => ?_)
              · refine lv_aload hx hb dX7_firstWrong_99 (lv_at hl 1 rfl) ?_
                refine lv_iload_n hx hb dX7_firstWrong_101 rfl (lv_at hl 4 rfl) ?_
                refine lv_aload_n hx hb dX7_firstWrong_102 rfl (lv_at hl 5 rfl) ?_
                refine va_get (D := D) (ci := 7) (v := .ref j0) (C := RX7) (T := TX7) (N := 9) hx hb hts hi_X7_firstWrong_7 hown hK hP 0 rfl rfl 1 (by decide) (hts (.fieldLink RX7 18 "TheLiningsInIt" "now" "LTheLiningsInIt$Jacket;") (List.mem_of_getElem? (i := 1) rfl)) (fun _ h9 => h9) rfl dX7_firstWrong_103 ?_
                refine va_get (D := D) (ci := 0) (v := .int hu) (C := RX0) (T := TX0) (N := 9) hx hb hts hi_X7_firstWrong_0 hown hK hP 1 rfl rfl 7 (by decide) (hts (.fieldLink RX7 116 "TheLiningsInIt$Jacket" "hurry" "I") (List.mem_of_getElem? (i := 4) rfl)) (fun _ h9 => h9) rfl dX7_firstWrong_106 ?_
                refine zc_V (As := [.int v_1, .int hu]) (rest := []) ⟨hx, hb, hml, hown, hts⟩ (c_F_Pull_deeper l D cI cJ cZ cP cS po (v_1) (hu) u_11 (kiu_11) (au_11) (tu_11) huu_11 ⟨by omega, by omega, by omega, by omega⟩ hbv_1.1 hbv_1.2 hy8 hy9) (cwV 2 hts gX7_firstWrong_X2_deeper rfl rfl rfl ⟨rfl, dh_X2_deeper⟩ ⟨Nat.le_of_ble_eq_true rfl, Nat.le_of_ble_eq_true rfl⟩) hK hN hZ hP zP_nil (va_recv (q := (RX2, TX2, 3)) hK (zPu_P hZ huu_11) (ci := 2) (q0 := 0) rfl rfl) rfl hl.1 rfl (Nat.le_of_ble_eq_true rfl) dX7_firstWrong_109 ⟨Nat.le_of_ble_eq_true rfl, Nat.le_of_ble_eq_true rfl⟩ (fun r_26 hr_26 => ?_)
                obtain ⟨g_27, g_28, hsr_26_0⟩ := hr_26
                refine lv_istore_n (lv' := [(3, .int r_26), (7, .int 0), (6, .ref u_11), (5, .int i_20), (4, .int v_2), (0, .ref x0), (1, .ref h0), (2, .int n)]) hx hb dX7_firstWrong_112 rfl hl (by decide) rfl (fun ls hl => ?_)
                refine lv_iload hx hb dX7_firstWrong_113 (lv_at hl 4 rfl) ?_
                refine lv_aload hx hb dX7_firstWrong_115 (lv_at hl 2 rfl) ?_
                refine va_get (D := D) (ci := 2) (v := .int tu_11) (C := RX2) (T := TX2) (N := 3) hx hb hts hi_X7_firstWrong_2 hown hK (zPu_P hZ huu_11) 0 rfl rfl 2 (by decide) (hts (.fieldLink RX7 110 "TheLiningsInIt$Pull" "takes" "I") (List.mem_of_getElem? (i := 5) rfl)) (fun _ h9 => h9) rfl dX7_firstWrong_117 ?_
                refine lv_isub hx hb dX7_firstWrong_120 ?_
                refine lv_topi (fun x_29 ex_29 => ?_)
                have qx_29 : x_29.toInt = v_2.toInt - tu_11.toInt := by rw [ex_29]; exact zf_sub rfl rfl (by omega) (by omega)
                refine lv_istore (lv' := [(4, .int x_29), (3, .int r_26), (7, .int 0), (6, .ref u_11), (5, .int i_20), (0, .ref x0), (1, .ref h0), (2, .int n)]) hx hb dX7_firstWrong_121 hl (by decide) rfl (fun ls hl => ?_)
                obtain ⟨x_30, ex_30⟩ : ∃ y : Int32, y = i_20 + 1 := ⟨_, rfl⟩
                have qx_30 : x_30.toInt = i_20.toInt + 1 := dw_inc ex_30 fc_4
                refine lv_iinc (v := x_30) (lv' := [(5, .int x_30), (4, .int x_29), (3, .int r_26), (7, .int 0), (6, .ref u_11), (0, .ref x0), (1, .ref h0), (2, .int n)]) hx hb dX7_firstWrong_123 hl (k := 4) rfl ex_30.symm (by decide) rfl (fun ls hl => ?_)
                refine lv_goto (tgt := 20) hx hb dX7_firstWrong_126 (by decide) ?_
                exact ih x_30 r_26 x_29 _ (lv_sub hl [0, 1, 2, 5, 6, 7] rfl) ⟨by omega, by omega⟩ ⟨by omega, by omega⟩ (show zJg kf af tf cn.toInt hu.toInt fe n.toInt.toNat 0 de.toInt se.toInt = zJg kf af tf cn.toInt hu.toInt fe (n.toInt - x_30.toInt).toNat x_30.toInt (r_26 : Int32).toInt (x_29 : Int32).toInt from by (have zt : zTl fe i_20.toInt = r_5.toInt := (by have z := hsr_5_0 (by omega) (by omega); unfold zTl; rw [show i_20.toInt.toNat = i_20.toNatClampNeg from rfl, ← z]); have y9 : r_5.toNatClampNeg = r_5.toInt.toNat := rfl; have hk : (n.toInt - i_20.toInt).toNat = (n.toInt - (i_20.toInt + 1)).toNat + 1 := (by omega); obtain ⟨⟨y1, y2, y3⟩, y4, y5⟩ := hkku_11; rw [y9] at y1 y2 y3; rw [hvi_20_0, hk, zJg_s, zt, if_pos ⟨⟨by omega, by omega⟩, by omega, by rw [← y3]; omega⟩, ← y1, ← y2, ← y3, ← hsr_21_0, if_neg (by omega), ← hsr_26_0, show v_2.toInt - tu_11.toInt = (x_29 : Int32).toInt from by omega, show x_30.toInt = i_20.toInt + 1 from by omega])) (show x_30.toInt ≤ n.toInt from by omega) (dw_lo hloi_20 qx_30) (dw_hn hni_20 qx_30)
              · exact absurd c_25 (by decide)
            · have fc_24 : 6 ≤ r_21.toInt := zf_nlt c_24 rfl (by decide)
              refine lv_iconst (v := 1) hx hb dX7_firstWrong_78 (by decide) ?_
              refine lv_goto (tgt := 83) hx hb dX7_firstWrong_79 (by decide) ?_
              refine lv_istore (lv' := [(7, .int 1), (6, .ref u_11), (5, .int i_20), (4, .int v_2), (3, .int v_1), (0, .ref x0), (1, .ref h0), (2, .int n)]) hx hb dX7_firstWrong_83 hl (by decide) rfl (fun ls hl => ?_)
              refine lv_iload hx hb dX7_firstWrong_85 (lv_at hl 0 rfl) ?_
              refine lv_if_eq (tgt := 99) hx hb dX7_firstWrong_87 (by decide) (fun c_31 => ?_) (fun c_31 => ?_)
              · exact absurd c_31 (by decide)
              · refine lv_aload hx hb dX7_firstWrong_90 (lv_at hl 1 rfl) ?_
                refine lv_iload_n hx hb dX7_firstWrong_92 rfl (lv_at hl 4 rfl) ?_
                refine zc_V (As := [.int v_1]) (rest := []) ⟨hx, hb, hml, hown, hts⟩ (c_F_Pull_shallower l D cI cJ cZ cP cS po (v_1) u_11 (kiu_11) (au_11) (tu_11) huu_11 ⟨by omega, by omega, by omega, by omega⟩ hbv_1.1 hbv_1.2) (cwV 1 hts gX7_firstWrong_X2_shallower rfl rfl rfl ⟨rfl, dh_X2_shallower⟩ ⟨Nat.le_of_ble_eq_true rfl, Nat.le_of_ble_eq_true rfl⟩) hK hN hZ hP zP_nil (va_recv (q := (RX2, TX2, 3)) hK (zPu_P hZ huu_11) (ci := 2) (q0 := 0) rfl rfl) rfl hl.1 rfl (Nat.le_of_ble_eq_true rfl) dX7_firstWrong_93 ⟨Nat.le_of_ble_eq_true rfl, Nat.le_of_ble_eq_true rfl⟩ (fun r_32 hr_32 => ?_)
                obtain ⟨g_33, g_34, hsr_32_0⟩ := hr_32
                refine lv_goto (tgt := 112) hx hb dX7_firstWrong_96 (by decide) ?_
                refine lv_istore_n (lv' := [(3, .int r_32), (7, .int 1), (6, .ref u_11), (5, .int i_20), (4, .int v_2), (0, .ref x0), (1, .ref h0), (2, .int n)]) hx hb dX7_firstWrong_112 rfl hl (by decide) rfl (fun ls hl => ?_)
                refine lv_iload hx hb dX7_firstWrong_113 (lv_at hl 4 rfl) ?_
                refine lv_aload hx hb dX7_firstWrong_115 (lv_at hl 2 rfl) ?_
                refine va_get (D := D) (ci := 2) (v := .int tu_11) (C := RX2) (T := TX2) (N := 3) hx hb hts hi_X7_firstWrong_2 hown hK (zPu_P hZ huu_11) 0 rfl rfl 2 (by decide) (hts (.fieldLink RX7 110 "TheLiningsInIt$Pull" "takes" "I") (List.mem_of_getElem? (i := 5) rfl)) (fun _ h9 => h9) rfl dX7_firstWrong_117 ?_
                refine lv_isub hx hb dX7_firstWrong_120 ?_
                refine lv_topi (fun x_35 ex_35 => ?_)
                have qx_35 : x_35.toInt = v_2.toInt - tu_11.toInt := by rw [ex_35]; exact zf_sub rfl rfl (by omega) (by omega)
                refine lv_istore (lv' := [(4, .int x_35), (3, .int r_32), (7, .int 1), (6, .ref u_11), (5, .int i_20), (0, .ref x0), (1, .ref h0), (2, .int n)]) hx hb dX7_firstWrong_121 hl (by decide) rfl (fun ls hl => ?_)
                obtain ⟨x_36, ex_36⟩ : ∃ y : Int32, y = i_20 + 1 := ⟨_, rfl⟩
                have qx_36 : x_36.toInt = i_20.toInt + 1 := dw_inc ex_36 fc_4
                refine lv_iinc (v := x_36) (lv' := [(5, .int x_36), (4, .int x_35), (3, .int r_32), (7, .int 1), (6, .ref u_11), (0, .ref x0), (1, .ref h0), (2, .int n)]) hx hb dX7_firstWrong_123 hl (k := 4) rfl ex_36.symm (by decide) rfl (fun ls hl => ?_)
                refine lv_goto (tgt := 20) hx hb dX7_firstWrong_126 (by decide) ?_
                exact ih x_36 r_32 x_35 _ (lv_sub hl [0, 1, 2, 5, 6, 7] rfl) ⟨by omega, by omega⟩ ⟨by omega, by omega⟩ (show zJg kf af tf cn.toInt hu.toInt fe n.toInt.toNat 0 de.toInt se.toInt = zJg kf af tf cn.toInt hu.toInt fe (n.toInt - x_36.toInt).toNat x_36.toInt (r_32 : Int32).toInt (x_35 : Int32).toInt from by (have zt : zTl fe i_20.toInt = r_5.toInt := (by have z := hsr_5_0 (by omega) (by omega); unfold zTl; rw [show i_20.toInt.toNat = i_20.toNatClampNeg from rfl, ← z]); have y9 : r_5.toNatClampNeg = r_5.toInt.toNat := rfl; have hk : (n.toInt - i_20.toInt).toNat = (n.toInt - (i_20.toInt + 1)).toNat + 1 := (by omega); obtain ⟨⟨y1, y2, y3⟩, y4, y5⟩ := hkku_11; rw [y9] at y1 y2 y3; rw [hvi_20_0, hk, zJg_s, zt, if_pos ⟨⟨by omega, by omega⟩, by omega, by rw [← y3]; omega⟩, ← y1, ← y2, ← y3, ← hsr_21_0, if_pos (by omega), ← hsr_32_0, show v_2.toInt - tu_11.toInt = (x_35 : Int32).toInt from by omega, show x_36.toInt = i_20.toInt + 1 from by omega])) (show x_36.toInt ≤ n.toInt from by omega) (dw_lo hloi_20 qx_36) (dw_hn hni_20 qx_36)
          · exact absurd c_20 (by decide)
set_option maxHeartbeats 4000000 in
set_option maxRecDepth 100000 in
theorem c_F_X_judge (l : Launch) (D : va_G) (cI cJ cZ cP cS : ClassId) (po : zPool) (x0 xs j0 k0 w0 rd mv xr : Nat) (im lf : Int32) (fr : Nat → Int32) (fh : Nat → Option Nat) (s_ : Int32) (h0 e0 : Nat) (he si : Int32) (fe : Nat → Int64) (j0 jp jc z0 zl zs : Nat) (cn de tr se hu sd : Int32) (fp : Nat → Option Nat) (kf af tf : Nat → Int32) (n : Int32) (hy0 : 0 ≤ im.toInt) (hy1 : im.toInt ≤ 1) (hy2 : (-1) ≤ lf.toInt) (hy3 : lf.toInt ≤ 160) (hy4 : (-1) ≤ he.toInt) (hy5 : he.toInt ≤ 103) (hy6 : 0 ≤ si.toInt) (hy7 : si.toInt ≤ 160) (hfs : 0 ≤ s_.toInt → s_.toInt ≤ 7 → fh s_.toNatClampNeg = some h0) (hy9 : 0 ≤ cn.toInt) (hy10 : cn.toInt ≤ 8) (hy11 : 0 ≤ de.toInt) (hy12 : de.toInt ≤ 24) (hy13 : 0 ≤ hu.toInt) (hy14 : hu.toInt ≤ 9) (hjp : zJP po fp cn kf af tf) (hy16 : 0 ≤ se.toInt) (hy17 : se.toInt ≤ 300) (hpz : Nat) : Met l yX7_judge wsX7_judge ({ frames := 3, cells := 0, slots := 0, locals := 71 }) (va_Pc [.ref x0, .int s_, .int n] (zW D (zKT cI cJ cZ cP cS) po [(x0, .inr (7, [.ref xs, .ref j0, .ref k0, .ref w0, .ref rd, .ref mv, .ref xr, .int im, .int lf])), (xr, .inl (cI, 8, .inl fr)), (xs, .inl (cS, 8, .inr (.inr (.inr (.inr fh))))), (h0, .inr (4, [.ref e0, .int he, .int si])), (e0, .inl (cJ, 160, .inr (.inl fe))), (j0, .inr (0, [.ref z0, .ref jp, .ref jc, .int cn, .int de, .int tr, .int se, .int hu, .int sd])), (jp, .inl (cP, 8, .inr (.inr (.inr (.inr fp)))))] hpz)) (va_Qi (fun (r : Int32) (fr2 : (Nat → Int32)) => (((s_.toInt < 0 ∨ 7 < s_.toInt) ∧ r.toInt = -11) ∨ ((0 ≤ s_.toInt ∧ s_.toInt ≤ 7) ∧ ((he.toInt = -1 ∧ r.toInt = -13) ∨ (he.toInt ≠ -1 ∧ he.toInt < 100 ∧ r.toInt = -12) ∨ (100 ≤ he.toInt ∧ ((n.toInt < 0 ∧ r.toInt = -14) ∨ (0 ≤ n.toInt ∧ si.toInt < n.toInt ∧ r.toInt = -15) ∨ (0 ≤ n.toInt ∧ n.toInt ≤ si.toInt ∧ 20 < n.toInt ∧ r.toInt = -16) ∨ ((0 ≤ n.toInt ∧ n.toInt ≤ si.toInt ∧ n.toInt ≤ 20) ∧ r.toInt = zJg kf af tf cn.toInt hu.toInt fe n.toInt.toNat 0 de.toInt se.toInt)))))) ∧ (True)) (zB D [(x0, .inr (7, [.ref xs, .ref j0, .ref k0, .ref w0, .ref rd, .ref mv, .ref xr, .int im, .int lf])), (xr, .inl (cI, 8, .inl fr)), (xs, .inl (cS, 8, .inr (.inr (.inr (.inr fh))))), (h0, .inr (4, [.ref e0, .int he, .int si])), (e0, .inl (cJ, 160, .inr (.inl fe))), (j0, .inr (0, [.ref z0, .ref jp, .ref jc, .int cn, .int de, .int tr, .int se, .int hu, .int sd])), (jp, .inl (cP, 8, .inr (.inr (.inr (.inr fp)))))] hpz (fun (fr2 : Nat → Int32) => [(x0, .inr (7, [.ref xs, .ref j0, .ref k0, .ref w0, .ref rd, .ref mv, .ref xr, .int im, .int lf])), (xr, .inl (cI, 8, .inl fr2)), (xs, .inl (cS, 8, .inr (.inr (.inr (.inr fh))))), (h0, .inr (4, [.ref e0, .int he, .int si])), (e0, .inl (cJ, 160, .inr (.inl fe))), (j0, .inr (0, [.ref z0, .ref jp, .ref jc, .int cn, .int de, .int tr, .int se, .int hu, .int sd])), (jp, .inl (cP, 8, .inr (.inr (.inr (.inr fp)))))])) (va_A [(x0, .inr (7, [.ref xs, .ref j0, .ref k0, .ref w0, .ref rd, .ref mv, .ref xr, .int im, .int lf])), (xr, .inl (cI, 8, .inl fr)), (xs, .inl (cS, 8, .inr (.inr (.inr (.inr fh))))), (h0, .inr (4, [.ref e0, .int he, .int si])), (e0, .inl (cJ, 160, .inr (.inl fe))), (j0, .inr (0, [.ref z0, .ref jp, .ref jc, .int cn, .int de, .int tr, .int se, .int hu, .int sd])), (jp, .inl (cP, 8, .inr (.inr (.inr (.inr fp)))))] hpz)) 0 0 (va_A [(x0, .inr (7, [.ref xs, .ref j0, .ref k0, .ref w0, .ref rd, .ref mv, .ref xr, .int im, .int lf])), (xr, .inl (cI, 8, .inl fr)), (xs, .inl (cS, 8, .inr (.inr (.inr (.inr fh))))), (h0, .inr (4, [.ref e0, .int he, .int si])), (e0, .inl (cJ, 160, .inr (.inl fe))), (j0, .inr (0, [.ref z0, .ref jp, .ref jc, .int cn, .int de, .int tr, .int se, .int hu, .int sd])), (jp, .inl (cP, 8, .inr (.inr (.inr (.inr fp)))))] hpz) := by
  refine Met.ofW (cc := cX7_judge) (maxL := 5) (ret := (some .int)) (by decide) rfl ?_
  intro p e s m args below meth c s₁ B hml hv
  obtain ⟨rfl, hsz, hP, hK, hD0, hN, hZ⟩ := hv
  have hx := B.exec
  have hb := B.bytes
  have hr := B.returns
  have hts := atoms_spec (ws := wsX7_judge) B.pre
  have hown : s.vm.findClass RX7 = some m.cls := findClass_of_methodNamed B.named
  have hlocks := B.notSynchronized
  subst hsz
  have hD := hD0.self (sz := s.heap.size)
  have hA := zA_of hD
  have hl := lv_entry ([.ref x0, .int s_, .int n]) (n := 5) (Nat.le_of_ble_eq_true rfl)
  rw [lg_entry_eq]
  generalize (lg_sl ([.ref x0, .int s_, .int n]) ++ List.replicate (5 - (lg_sl ([.ref x0, .int s_, .int n])).length) Slot.unset).toArray = ls at hl ⊢
  replace hl : lv_has ls 5 [(0, .ref x0), (1, .int s_), (2, .int n)] := hl
  refine zw_begin hP hD (fun H locs hP1 hS => ?_)
  clear hP
  have hP := hP1
  clear hP1
  refine lv_aload_n hx hb dX7_judge_0 rfl (lv_at hl 0 rfl) ?_
  refine lv_iload_n hx hb dX7_judge_1 rfl (lv_at hl 1 rfl) ?_
  refine zc_Vq (As := [.int s_]) (rest := []) ⟨hx, hb, hml, hown, hts⟩ (c_X_shelfAt l D cI cJ cZ cP cS po x0 xs j0 k0 w0 rd mv xr (im) (lf) ((fun _ => 0)) fh (s_) hy0 hy1 hy2 hy3) (cwV 1 hts gX7_judge_X7_shelfAt rfl rfl rfl ⟨rfl, dh_X7_shelfAt⟩ ⟨Nat.le_of_ble_eq_true rfl, Nat.le_of_ble_eq_true rfl⟩) hK hN (hZ.kept hS) hP (hP.sub [0, 2] rfl) (va_recv (q := (RX7, TX7, 9)) hK hP (ci := 7) (q0 := 0) rfl rfl) rfl hl.1 rfl (Nat.le_of_ble_eq_true rfl) dX7_judge_2 ⟨Nat.le_of_ble_eq_true rfl, Nat.le_of_ble_eq_true rfl⟩ (fun r_1 hr_1 => ?_)
  rcases hr_1 with ⟨rfl, g_2⟩ | ⟨rfl, g_3, g_4⟩ | ⟨rfl, g_5, g_6⟩
  · refine lv_astore_nN (lv' := [(3, .null), (0, .ref x0), (1, .int s_), (2, .int n)]) hx hb dX7_judge_5 rfl hl (by decide) rfl (fun ls hl => ?_)
    refine lv_aload_nN hx hb dX7_judge_6 rfl (lv_at hl 0 rfl) ?_
    refine lv_ifnonnullN hx hb dX7_judge_7 ?_
    refine lv_aload_n hx hb dX7_judge_10 rfl (lv_at hl 1 rfl) ?_
    refine lv_iconst (v := 1) hx hb dX7_judge_11 (by decide) ?_
    skip
    refine zw_V (As := [.int 1]) (rest := []) (wr := [(xs, .inl (cS, 8, .inr (.inr (.inr (.inr fh))))), (h0, .inr (4, [.ref e0, .int he, .int si])), (e0, .inl (cJ, 160, .inr (.inl fe))), (j0, .inr (0, [.ref z0, .ref jp, .ref jc, .int cn, .int de, .int tr, .int se, .int hu, .int sd])), (jp, .inl (cP, 8, .inr (.inr (.inr (.inr fp)))))]) ⟨hx, hb, hml, hown, hts⟩ (c_X_refuseLower_1 l D cI cJ cZ cP cS po x0 xs j0 k0 w0 rd mv xr (im) (lf) fr hy0 hy1 hy2 hy3 H.size) (cwV 1 hts gX7_judge_X7_refuseLower rfl rfl rfl ⟨rfl, dh_X7_refuseLower⟩ ⟨Nat.le_of_ble_eq_true rfl, Nat.le_of_ble_eq_true rfl⟩) hK hN (hZ.kept hS) hP hD hS hA [0, 1] [2, 3, 4, 5, 6] rfl rfl (by decide) (by decide) (by decide) (va_recv (q := (RX7, TX7, 9)) hK hP (ci := 7) (q0 := 0) rfl rfl) rfl hl.1 rfl (Nat.le_of_ble_eq_true rfl) dX7_judge_12 ⟨Nat.le_of_ble_eq_true rfl, Nat.le_of_ble_eq_true rfl⟩ (fun r_7 u_8 H locs hr_7 hP hD hS => ?_)
    obtain ⟨q_9, rfl⟩ : ∃ z, z = u_8 := ⟨_, rfl⟩
    have h9R := zRe (ws' := [(xs, .inl (cS, 8, .inr (.inr (.inr (.inr fh))))), (h0, .inr (4, [.ref e0, .int he, .int si])), (e0, .inl (cJ, 160, .inr (.inl fe))), (j0, .inr (0, [.ref z0, .ref jp, .ref jc, .int cn, .int de, .int tr, .int se, .int hu, .int sd])), (jp, .inl (cP, 8, .inr (.inr (.inr (.inr fp))))), (x0, .inr (7, [.ref xs, .ref j0, .ref k0, .ref w0, .ref rd, .ref mv, .ref xr, .int im, .int lf])), (xr, .inl (cI, 8, .inl q_9))]) hP hD rfl
    clear hP hD
    obtain ⟨hP, hD⟩ := h9R
    obtain rfl := hr_7
    exact W.iret (v := (-11)) hx hb hr (fun t ht hW => ⟨⟨(-11), q_9, rfl, ⟨(show ((s_.toInt < 0 ∨ 7 < s_.toInt) ∧ ((-11) : Int32).toInt = -11) ∨ ((0 ≤ s_.toInt ∧ s_.toInt ≤ 7) ∧ ((he.toInt = -1 ∧ ((-11) : Int32).toInt = -13) ∨ (he.toInt ≠ -1 ∧ he.toInt < 100 ∧ ((-11) : Int32).toInt = -12) ∨ (100 ≤ he.toInt ∧ ((n.toInt < 0 ∧ ((-11) : Int32).toInt = -14) ∨ (0 ≤ n.toInt ∧ si.toInt < n.toInt ∧ ((-11) : Int32).toInt = -15) ∨ (0 ≤ n.toInt ∧ n.toInt ≤ si.toInt ∧ 20 < n.toInt ∧ ((-11) : Int32).toInt = -16) ∨ ((0 ≤ n.toInt ∧ n.toInt ≤ si.toInt ∧ n.toInt ≤ 20) ∧ ((-11) : Int32).toInt = zJg kf af tf cn.toInt hu.toInt fe n.toInt.toNat 0 de.toInt se.toInt))))) from by (have k9 : ((-11) : Int32).toInt = -11 := (by decide); omega)), trivial⟩, zRet ht hP hD [5, 6, 0, 1, 2, 3, 4] (by decide) rfl⟩, hS.F ht⟩) hS.2.2 dX7_judge_15
  · refine lv_astore_nN (lv' := [(3, .null), (0, .ref x0), (1, .int s_), (2, .int n)]) hx hb dX7_judge_5 rfl hl (by decide) rfl (fun ls hl => ?_)
    refine lv_aload_nN hx hb dX7_judge_6 rfl (lv_at hl 0 rfl) ?_
    refine lv_ifnonnullN hx hb dX7_judge_7 ?_
    refine lv_aload_n hx hb dX7_judge_10 rfl (lv_at hl 1 rfl) ?_
    refine lv_iconst (v := 1) hx hb dX7_judge_11 (by decide) ?_
    skip
    refine zw_V (As := [.int 1]) (rest := []) (wr := [(xs, .inl (cS, 8, .inr (.inr (.inr (.inr fh))))), (h0, .inr (4, [.ref e0, .int he, .int si])), (e0, .inl (cJ, 160, .inr (.inl fe))), (j0, .inr (0, [.ref z0, .ref jp, .ref jc, .int cn, .int de, .int tr, .int se, .int hu, .int sd])), (jp, .inl (cP, 8, .inr (.inr (.inr (.inr fp)))))]) ⟨hx, hb, hml, hown, hts⟩ (c_X_refuseLower_1 l D cI cJ cZ cP cS po x0 xs j0 k0 w0 rd mv xr (im) (lf) fr hy0 hy1 hy2 hy3 H.size) (cwV 1 hts gX7_judge_X7_refuseLower rfl rfl rfl ⟨rfl, dh_X7_refuseLower⟩ ⟨Nat.le_of_ble_eq_true rfl, Nat.le_of_ble_eq_true rfl⟩) hK hN (hZ.kept hS) hP hD hS hA [0, 1] [2, 3, 4, 5, 6] rfl rfl (by decide) (by decide) (by decide) (va_recv (q := (RX7, TX7, 9)) hK hP (ci := 7) (q0 := 0) rfl rfl) rfl hl.1 rfl (Nat.le_of_ble_eq_true rfl) dX7_judge_12 ⟨Nat.le_of_ble_eq_true rfl, Nat.le_of_ble_eq_true rfl⟩ (fun r_10 u_11 H locs hr_10 hP hD hS => ?_)
    obtain ⟨q_12, rfl⟩ : ∃ z, z = u_11 := ⟨_, rfl⟩
    have h9R := zRe (ws' := [(xs, .inl (cS, 8, .inr (.inr (.inr (.inr fh))))), (h0, .inr (4, [.ref e0, .int he, .int si])), (e0, .inl (cJ, 160, .inr (.inl fe))), (j0, .inr (0, [.ref z0, .ref jp, .ref jc, .int cn, .int de, .int tr, .int se, .int hu, .int sd])), (jp, .inl (cP, 8, .inr (.inr (.inr (.inr fp))))), (x0, .inr (7, [.ref xs, .ref j0, .ref k0, .ref w0, .ref rd, .ref mv, .ref xr, .int im, .int lf])), (xr, .inl (cI, 8, .inl q_12))]) hP hD rfl
    clear hP hD
    obtain ⟨hP, hD⟩ := h9R
    obtain rfl := hr_10
    exact W.iret (v := (-11)) hx hb hr (fun t ht hW => ⟨⟨(-11), q_12, rfl, ⟨(show ((s_.toInt < 0 ∨ 7 < s_.toInt) ∧ ((-11) : Int32).toInt = -11) ∨ ((0 ≤ s_.toInt ∧ s_.toInt ≤ 7) ∧ ((he.toInt = -1 ∧ ((-11) : Int32).toInt = -13) ∨ (he.toInt ≠ -1 ∧ he.toInt < 100 ∧ ((-11) : Int32).toInt = -12) ∨ (100 ≤ he.toInt ∧ ((n.toInt < 0 ∧ ((-11) : Int32).toInt = -14) ∨ (0 ≤ n.toInt ∧ si.toInt < n.toInt ∧ ((-11) : Int32).toInt = -15) ∨ (0 ≤ n.toInt ∧ n.toInt ≤ si.toInt ∧ 20 < n.toInt ∧ ((-11) : Int32).toInt = -16) ∨ ((0 ≤ n.toInt ∧ n.toInt ≤ si.toInt ∧ n.toInt ≤ 20) ∧ ((-11) : Int32).toInt = zJg kf af tf cn.toInt hu.toInt fe n.toInt.toNat 0 de.toInt se.toInt))))) from by (have k9 : ((-11) : Int32).toInt = -11 := (by decide); omega)), trivial⟩, zRet ht hP hD [5, 6, 0, 1, 2, 3, 4] (by decide) rfl⟩, hS.F ht⟩) hS.2.2 dX7_judge_15
  · rw [hfs (by omega) (by omega)]
    refine W.eq (g2 := F0 m 5 ls (.ref h0 :: [])) rfl ?_
    refine lv_astore_n (lv' := [(3, .ref h0), (0, .ref x0), (1, .int s_), (2, .int n)]) hx hb dX7_judge_5 rfl hl (by decide) rfl (fun ls hl => ?_)
    refine lv_aload_n hx hb dX7_judge_6 rfl (lv_at hl 0 rfl) ?_
    refine lv_ifnonnull (tgt := 16) hx hb dX7_judge_7 (by decide) ?_
    refine lv_aload_n hx hb dX7_judge_16 rfl (lv_at hl 0 rfl) ?_
    refine lv_iload_n hx hb dX7_judge_17 rfl (lv_at hl 3 rfl) ?_
    refine zc_V (As := [.int n]) (rest := []) ⟨hx, hb, hml, hown, hts⟩ (c_Sh_noTelling l D cI cJ cZ cP cS po h0 e0 (he) (si) (n) hy4 hy5 hy6 hy7) (cwV 1 hts gX7_judge_X4_noTelling rfl rfl rfl ⟨rfl, dh_X4_noTelling⟩ ⟨Nat.le_of_ble_eq_true rfl, Nat.le_of_ble_eq_true rfl⟩) hK hN (hZ.kept hS) hP (hP.sub [3] rfl) (va_recv (q := (RX4, TX4, 3)) hK hP (ci := 4) (q0 := 3) rfl rfl) rfl hl.1 rfl (Nat.le_of_ble_eq_true rfl) dX7_judge_18 ⟨Nat.le_of_ble_eq_true rfl, Nat.le_of_ble_eq_true rfl⟩ (fun r_13 hr_13 => ?_)
    rcases hr_13 with ⟨rfl, g_14, g_15⟩ | ⟨rfl, g_16, g_17⟩ | ⟨rfl, g_18, g_19, g_20⟩ | ⟨rfl, g_21, g_22, g_23⟩ | ⟨rfl, g_24, g_25⟩
    · refine lv_istore (lv' := [(4, .int 2), (3, .ref h0), (0, .ref x0), (1, .int s_), (2, .int n)]) hx hb dX7_judge_21 hl (by decide) rfl (fun ls hl => ?_)
      refine lv_iload hx hb dX7_judge_23 (lv_at hl 0 rfl) ?_
      refine lv_if_eq (tgt := 35) hx hb dX7_judge_25 (by decide) (fun c_26 => ?_) (fun c_26 => ?_)
      · exact absurd c_26 (by decide)
      · refine lv_aload_n hx hb dX7_judge_28 rfl (lv_at hl 2 rfl) ?_
        refine lv_iload hx hb dX7_judge_29 (lv_at hl 0 rfl) ?_
        skip
        refine zw_V (As := [.int 2]) (rest := []) (wr := [(xs, .inl (cS, 8, .inr (.inr (.inr (.inr fh))))), (h0, .inr (4, [.ref e0, .int he, .int si])), (e0, .inl (cJ, 160, .inr (.inl fe))), (j0, .inr (0, [.ref z0, .ref jp, .ref jc, .int cn, .int de, .int tr, .int se, .int hu, .int sd])), (jp, .inl (cP, 8, .inr (.inr (.inr (.inr fp)))))]) ⟨hx, hb, hml, hown, hts⟩ (c_X_refuseLower_2 l D cI cJ cZ cP cS po x0 xs j0 k0 w0 rd mv xr (im) (lf) fr hy0 hy1 hy2 hy3 H.size) (cwV 1 hts gX7_judge_X7_refuseLower rfl rfl rfl ⟨rfl, dh_X7_refuseLower⟩ ⟨Nat.le_of_ble_eq_true rfl, Nat.le_of_ble_eq_true rfl⟩) hK hN (hZ.kept hS) hP hD hS hA [0, 1] [2, 3, 4, 5, 6] rfl rfl (by decide) (by decide) (by decide) (va_recv (q := (RX7, TX7, 9)) hK hP (ci := 7) (q0 := 0) rfl rfl) rfl hl.1 rfl (Nat.le_of_ble_eq_true rfl) dX7_judge_31 ⟨Nat.le_of_ble_eq_true rfl, Nat.le_of_ble_eq_true rfl⟩ (fun r_27 u_28 H locs hr_27 hP hD hS => ?_)
        obtain ⟨q_29, rfl⟩ : ∃ z, z = u_28 := ⟨_, rfl⟩
        have h9R := zRe (ws' := [(xs, .inl (cS, 8, .inr (.inr (.inr (.inr fh))))), (h0, .inr (4, [.ref e0, .int he, .int si])), (e0, .inl (cJ, 160, .inr (.inl fe))), (j0, .inr (0, [.ref z0, .ref jp, .ref jc, .int cn, .int de, .int tr, .int se, .int hu, .int sd])), (jp, .inl (cP, 8, .inr (.inr (.inr (.inr fp))))), (x0, .inr (7, [.ref xs, .ref j0, .ref k0, .ref w0, .ref rd, .ref mv, .ref xr, .int im, .int lf])), (xr, .inl (cI, 8, .inl q_29))]) hP hD rfl
        clear hP hD
        obtain ⟨hP, hD⟩ := h9R
        obtain rfl := hr_27
        exact W.iret (v := (-12)) hx hb hr (fun t ht hW => ⟨⟨(-12), q_29, rfl, ⟨(show ((s_.toInt < 0 ∨ 7 < s_.toInt) ∧ ((-12) : Int32).toInt = -11) ∨ ((0 ≤ s_.toInt ∧ s_.toInt ≤ 7) ∧ ((he.toInt = -1 ∧ ((-12) : Int32).toInt = -13) ∨ (he.toInt ≠ -1 ∧ he.toInt < 100 ∧ ((-12) : Int32).toInt = -12) ∨ (100 ≤ he.toInt ∧ ((n.toInt < 0 ∧ ((-12) : Int32).toInt = -14) ∨ (0 ≤ n.toInt ∧ si.toInt < n.toInt ∧ ((-12) : Int32).toInt = -15) ∨ (0 ≤ n.toInt ∧ n.toInt ≤ si.toInt ∧ 20 < n.toInt ∧ ((-12) : Int32).toInt = -16) ∨ ((0 ≤ n.toInt ∧ n.toInt ≤ si.toInt ∧ n.toInt ≤ 20) ∧ ((-12) : Int32).toInt = zJg kf af tf cn.toInt hu.toInt fe n.toInt.toNat 0 de.toInt se.toInt))))) from by (have k9 : ((-12) : Int32).toInt = -12 := (by decide); omega)), trivial⟩, zRet ht hP hD [5, 6, 0, 1, 2, 3, 4] (by decide) rfl⟩, hS.F ht⟩) hS.2.2 dX7_judge_34
    · refine lv_istore (lv' := [(4, .int 3), (3, .ref h0), (0, .ref x0), (1, .int s_), (2, .int n)]) hx hb dX7_judge_21 hl (by decide) rfl (fun ls hl => ?_)
      refine lv_iload hx hb dX7_judge_23 (lv_at hl 0 rfl) ?_
      refine lv_if_eq (tgt := 35) hx hb dX7_judge_25 (by decide) (fun c_30 => ?_) (fun c_30 => ?_)
      · exact absurd c_30 (by decide)
      · refine lv_aload_n hx hb dX7_judge_28 rfl (lv_at hl 2 rfl) ?_
        refine lv_iload hx hb dX7_judge_29 (lv_at hl 0 rfl) ?_
        skip
        refine zw_V (As := [.int 3]) (rest := []) (wr := [(xs, .inl (cS, 8, .inr (.inr (.inr (.inr fh))))), (h0, .inr (4, [.ref e0, .int he, .int si])), (e0, .inl (cJ, 160, .inr (.inl fe))), (j0, .inr (0, [.ref z0, .ref jp, .ref jc, .int cn, .int de, .int tr, .int se, .int hu, .int sd])), (jp, .inl (cP, 8, .inr (.inr (.inr (.inr fp)))))]) ⟨hx, hb, hml, hown, hts⟩ (c_X_refuseLower_3 l D cI cJ cZ cP cS po x0 xs j0 k0 w0 rd mv xr (im) (lf) fr hy0 hy1 hy2 hy3 H.size) (cwV 1 hts gX7_judge_X7_refuseLower rfl rfl rfl ⟨rfl, dh_X7_refuseLower⟩ ⟨Nat.le_of_ble_eq_true rfl, Nat.le_of_ble_eq_true rfl⟩) hK hN (hZ.kept hS) hP hD hS hA [0, 1] [2, 3, 4, 5, 6] rfl rfl (by decide) (by decide) (by decide) (va_recv (q := (RX7, TX7, 9)) hK hP (ci := 7) (q0 := 0) rfl rfl) rfl hl.1 rfl (Nat.le_of_ble_eq_true rfl) dX7_judge_31 ⟨Nat.le_of_ble_eq_true rfl, Nat.le_of_ble_eq_true rfl⟩ (fun r_31 u_32 H locs hr_31 hP hD hS => ?_)
        obtain ⟨q_33, rfl⟩ : ∃ z, z = u_32 := ⟨_, rfl⟩
        have h9R := zRe (ws' := [(xs, .inl (cS, 8, .inr (.inr (.inr (.inr fh))))), (h0, .inr (4, [.ref e0, .int he, .int si])), (e0, .inl (cJ, 160, .inr (.inl fe))), (j0, .inr (0, [.ref z0, .ref jp, .ref jc, .int cn, .int de, .int tr, .int se, .int hu, .int sd])), (jp, .inl (cP, 8, .inr (.inr (.inr (.inr fp))))), (x0, .inr (7, [.ref xs, .ref j0, .ref k0, .ref w0, .ref rd, .ref mv, .ref xr, .int im, .int lf])), (xr, .inl (cI, 8, .inl q_33))]) hP hD rfl
        clear hP hD
        obtain ⟨hP, hD⟩ := h9R
        obtain rfl := hr_31
        exact W.iret (v := (-13)) hx hb hr (fun t ht hW => ⟨⟨(-13), q_33, rfl, ⟨(show ((s_.toInt < 0 ∨ 7 < s_.toInt) ∧ ((-13) : Int32).toInt = -11) ∨ ((0 ≤ s_.toInt ∧ s_.toInt ≤ 7) ∧ ((he.toInt = -1 ∧ ((-13) : Int32).toInt = -13) ∨ (he.toInt ≠ -1 ∧ he.toInt < 100 ∧ ((-13) : Int32).toInt = -12) ∨ (100 ≤ he.toInt ∧ ((n.toInt < 0 ∧ ((-13) : Int32).toInt = -14) ∨ (0 ≤ n.toInt ∧ si.toInt < n.toInt ∧ ((-13) : Int32).toInt = -15) ∨ (0 ≤ n.toInt ∧ n.toInt ≤ si.toInt ∧ 20 < n.toInt ∧ ((-13) : Int32).toInt = -16) ∨ ((0 ≤ n.toInt ∧ n.toInt ≤ si.toInt ∧ n.toInt ≤ 20) ∧ ((-13) : Int32).toInt = zJg kf af tf cn.toInt hu.toInt fe n.toInt.toNat 0 de.toInt se.toInt))))) from by (have k9 : ((-13) : Int32).toInt = -13 := (by decide); omega)), trivial⟩, zRet ht hP hD [5, 6, 0, 1, 2, 3, 4] (by decide) rfl⟩, hS.F ht⟩) hS.2.2 dX7_judge_34
    · refine lv_istore (lv' := [(4, .int 0), (3, .ref h0), (0, .ref x0), (1, .int s_), (2, .int n)]) hx hb dX7_judge_21 hl (by decide) rfl (fun ls hl => ?_)
      refine lv_iload hx hb dX7_judge_23 (lv_at hl 0 rfl) ?_
      refine lv_if_eq (tgt := 35) hx hb dX7_judge_25 (by decide) (fun c_34 => ?_) (fun c_34 => ?_)
      · refine lv_iload_n hx hb dX7_judge_35 rfl (lv_at hl 4 rfl) ?_
        refine lv_bipush (v := 20) hx hb dX7_judge_36 (by decide) ?_
        refine lv_icmp_le (tgt := 48) hx hb dX7_judge_38 (by decide) (fun c_35 => ?_) (fun c_35 => ?_)
        · have fc_35 : n.toInt ≤ 20 := zf_le c_35 rfl (by decide)
          refine lv_aload_n hx hb dX7_judge_48 rfl (lv_at hl 2 rfl) ?_
          refine lv_aload_n hx hb dX7_judge_49 rfl (lv_at hl 1 rfl) ?_
          refine lv_iload_n hx hb dX7_judge_50 rfl (lv_at hl 4 rfl) ?_
          refine zc_V (As := [.ref h0, .int n]) (rest := []) ⟨hx, hb, hml, hown, hts⟩ (c_F_X_firstWrong l D cI cJ cZ cP cS po x0 xs j0 k0 w0 rd mv xr (im) (lf) ((fun _ => 0)) j0 jp jc z0 0 0 (cn) (de) (tr) (se) (hu) (sd) fp kf af tf h0 e0 (he) (si) fe (n) hy0 hy1 hy2 hy3 hy9 hy10 hy11 hy12 hy13 hy14 hy4 hy5 hy6 hy7 hjp hy16 hy17 (by omega) (by omega) (by omega)) (cwV 2 hts gX7_judge_X7_firstWrong rfl rfl rfl ⟨rfl, dh_X7_firstWrong⟩ ⟨Nat.le_of_ble_eq_true rfl, Nat.le_of_ble_eq_true rfl⟩) hK hN (hZ.kept hS) hP (hP.sub [0, 5, 6, 3, 4] rfl) (va_recv (q := (RX7, TX7, 9)) hK hP (ci := 7) (q0 := 0) rfl rfl) rfl hl.1 rfl (Nat.le_of_ble_eq_true rfl) dX7_judge_51 ⟨Nat.le_of_ble_eq_true rfl, Nat.le_of_ble_eq_true rfl⟩ (fun r_36 hr_36 => ?_)
          have hsr_36_0 := hr_36
          exact W.iret (v := r_36) hx hb hr (fun t ht hW => ⟨⟨r_36, fr, rfl, ⟨(show ((s_.toInt < 0 ∨ 7 < s_.toInt) ∧ (r_36 : Int32).toInt = -11) ∨ ((0 ≤ s_.toInt ∧ s_.toInt ≤ 7) ∧ ((he.toInt = -1 ∧ (r_36 : Int32).toInt = -13) ∨ (he.toInt ≠ -1 ∧ he.toInt < 100 ∧ (r_36 : Int32).toInt = -12) ∨ (100 ≤ he.toInt ∧ ((n.toInt < 0 ∧ (r_36 : Int32).toInt = -14) ∨ (0 ≤ n.toInt ∧ si.toInt < n.toInt ∧ (r_36 : Int32).toInt = -15) ∨ (0 ≤ n.toInt ∧ n.toInt ≤ si.toInt ∧ 20 < n.toInt ∧ (r_36 : Int32).toInt = -16) ∨ ((0 ≤ n.toInt ∧ n.toInt ≤ si.toInt ∧ n.toInt ≤ 20) ∧ (r_36 : Int32).toInt = zJg kf af tf cn.toInt hu.toInt fe n.toInt.toNat 0 de.toInt se.toInt))))) from by (exact Or.inr ⟨by omega, Or.inr (Or.inr ⟨by omega, Or.inr (Or.inr (Or.inr ⟨by omega, hsr_36_0⟩))⟩)⟩)), trivial⟩, zRet ht hP hD [0, 1, 2, 3, 4, 5, 6] (by decide) rfl⟩, hS.F ht⟩) hS.2.2 dX7_judge_54
        · have fc_35 : 20 < n.toInt := zf_nle c_35 rfl (by decide)
          refine lv_aload_n hx hb dX7_judge_41 rfl (lv_at hl 2 rfl) ?_
          refine lv_bipush (v := 6) hx hb dX7_judge_42 (by decide) ?_
          skip
          refine zw_V (As := [.int 6]) (rest := []) (wr := [(xs, .inl (cS, 8, .inr (.inr (.inr (.inr fh))))), (h0, .inr (4, [.ref e0, .int he, .int si])), (e0, .inl (cJ, 160, .inr (.inl fe))), (j0, .inr (0, [.ref z0, .ref jp, .ref jc, .int cn, .int de, .int tr, .int se, .int hu, .int sd])), (jp, .inl (cP, 8, .inr (.inr (.inr (.inr fp)))))]) ⟨hx, hb, hml, hown, hts⟩ (c_X_refuseLower_6 l D cI cJ cZ cP cS po x0 xs j0 k0 w0 rd mv xr (im) (lf) fr hy0 hy1 hy2 hy3 H.size) (cwV 1 hts gX7_judge_X7_refuseLower rfl rfl rfl ⟨rfl, dh_X7_refuseLower⟩ ⟨Nat.le_of_ble_eq_true rfl, Nat.le_of_ble_eq_true rfl⟩) hK hN (hZ.kept hS) hP hD hS hA [0, 1] [2, 3, 4, 5, 6] rfl rfl (by decide) (by decide) (by decide) (va_recv (q := (RX7, TX7, 9)) hK hP (ci := 7) (q0 := 0) rfl rfl) rfl hl.1 rfl (Nat.le_of_ble_eq_true rfl) dX7_judge_44 ⟨Nat.le_of_ble_eq_true rfl, Nat.le_of_ble_eq_true rfl⟩ (fun r_37 u_38 H locs hr_37 hP hD hS => ?_)
          obtain ⟨q_39, rfl⟩ : ∃ z, z = u_38 := ⟨_, rfl⟩
          have h9R := zRe (ws' := [(xs, .inl (cS, 8, .inr (.inr (.inr (.inr fh))))), (h0, .inr (4, [.ref e0, .int he, .int si])), (e0, .inl (cJ, 160, .inr (.inl fe))), (j0, .inr (0, [.ref z0, .ref jp, .ref jc, .int cn, .int de, .int tr, .int se, .int hu, .int sd])), (jp, .inl (cP, 8, .inr (.inr (.inr (.inr fp))))), (x0, .inr (7, [.ref xs, .ref j0, .ref k0, .ref w0, .ref rd, .ref mv, .ref xr, .int im, .int lf])), (xr, .inl (cI, 8, .inl q_39))]) hP hD rfl
          clear hP hD
          obtain ⟨hP, hD⟩ := h9R
          obtain rfl := hr_37
          exact W.iret (v := (-16)) hx hb hr (fun t ht hW => ⟨⟨(-16), q_39, rfl, ⟨(show ((s_.toInt < 0 ∨ 7 < s_.toInt) ∧ ((-16) : Int32).toInt = -11) ∨ ((0 ≤ s_.toInt ∧ s_.toInt ≤ 7) ∧ ((he.toInt = -1 ∧ ((-16) : Int32).toInt = -13) ∨ (he.toInt ≠ -1 ∧ he.toInt < 100 ∧ ((-16) : Int32).toInt = -12) ∨ (100 ≤ he.toInt ∧ ((n.toInt < 0 ∧ ((-16) : Int32).toInt = -14) ∨ (0 ≤ n.toInt ∧ si.toInt < n.toInt ∧ ((-16) : Int32).toInt = -15) ∨ (0 ≤ n.toInt ∧ n.toInt ≤ si.toInt ∧ 20 < n.toInt ∧ ((-16) : Int32).toInt = -16) ∨ ((0 ≤ n.toInt ∧ n.toInt ≤ si.toInt ∧ n.toInt ≤ 20) ∧ ((-16) : Int32).toInt = zJg kf af tf cn.toInt hu.toInt fe n.toInt.toNat 0 de.toInt se.toInt))))) from by (have k9 : ((-16) : Int32).toInt = -16 := (by decide); omega)), trivial⟩, zRet ht hP hD [5, 6, 0, 1, 2, 3, 4] (by decide) rfl⟩, hS.F ht⟩) hS.2.2 dX7_judge_47
      · exact absurd c_34 (by decide)
    · refine lv_istore (lv' := [(4, .int 5), (3, .ref h0), (0, .ref x0), (1, .int s_), (2, .int n)]) hx hb dX7_judge_21 hl (by decide) rfl (fun ls hl => ?_)
      refine lv_iload hx hb dX7_judge_23 (lv_at hl 0 rfl) ?_
      refine lv_if_eq (tgt := 35) hx hb dX7_judge_25 (by decide) (fun c_40 => ?_) (fun c_40 => ?_)
      · exact absurd c_40 (by decide)
      · refine lv_aload_n hx hb dX7_judge_28 rfl (lv_at hl 2 rfl) ?_
        refine lv_iload hx hb dX7_judge_29 (lv_at hl 0 rfl) ?_
        skip
        refine zw_V (As := [.int 5]) (rest := []) (wr := [(xs, .inl (cS, 8, .inr (.inr (.inr (.inr fh))))), (h0, .inr (4, [.ref e0, .int he, .int si])), (e0, .inl (cJ, 160, .inr (.inl fe))), (j0, .inr (0, [.ref z0, .ref jp, .ref jc, .int cn, .int de, .int tr, .int se, .int hu, .int sd])), (jp, .inl (cP, 8, .inr (.inr (.inr (.inr fp)))))]) ⟨hx, hb, hml, hown, hts⟩ (c_X_refuseLower_5 l D cI cJ cZ cP cS po x0 xs j0 k0 w0 rd mv xr (im) (lf) fr hy0 hy1 hy2 hy3 H.size) (cwV 1 hts gX7_judge_X7_refuseLower rfl rfl rfl ⟨rfl, dh_X7_refuseLower⟩ ⟨Nat.le_of_ble_eq_true rfl, Nat.le_of_ble_eq_true rfl⟩) hK hN (hZ.kept hS) hP hD hS hA [0, 1] [2, 3, 4, 5, 6] rfl rfl (by decide) (by decide) (by decide) (va_recv (q := (RX7, TX7, 9)) hK hP (ci := 7) (q0 := 0) rfl rfl) rfl hl.1 rfl (Nat.le_of_ble_eq_true rfl) dX7_judge_31 ⟨Nat.le_of_ble_eq_true rfl, Nat.le_of_ble_eq_true rfl⟩ (fun r_41 u_42 H locs hr_41 hP hD hS => ?_)
        obtain ⟨q_43, rfl⟩ : ∃ z, z = u_42 := ⟨_, rfl⟩
        have h9R := zRe (ws' := [(xs, .inl (cS, 8, .inr (.inr (.inr (.inr fh))))), (h0, .inr (4, [.ref e0, .int he, .int si])), (e0, .inl (cJ, 160, .inr (.inl fe))), (j0, .inr (0, [.ref z0, .ref jp, .ref jc, .int cn, .int de, .int tr, .int se, .int hu, .int sd])), (jp, .inl (cP, 8, .inr (.inr (.inr (.inr fp))))), (x0, .inr (7, [.ref xs, .ref j0, .ref k0, .ref w0, .ref rd, .ref mv, .ref xr, .int im, .int lf])), (xr, .inl (cI, 8, .inl q_43))]) hP hD rfl
        clear hP hD
        obtain ⟨hP, hD⟩ := h9R
        obtain rfl := hr_41
        exact W.iret (v := (-15)) hx hb hr (fun t ht hW => ⟨⟨(-15), q_43, rfl, ⟨(show ((s_.toInt < 0 ∨ 7 < s_.toInt) ∧ ((-15) : Int32).toInt = -11) ∨ ((0 ≤ s_.toInt ∧ s_.toInt ≤ 7) ∧ ((he.toInt = -1 ∧ ((-15) : Int32).toInt = -13) ∨ (he.toInt ≠ -1 ∧ he.toInt < 100 ∧ ((-15) : Int32).toInt = -12) ∨ (100 ≤ he.toInt ∧ ((n.toInt < 0 ∧ ((-15) : Int32).toInt = -14) ∨ (0 ≤ n.toInt ∧ si.toInt < n.toInt ∧ ((-15) : Int32).toInt = -15) ∨ (0 ≤ n.toInt ∧ n.toInt ≤ si.toInt ∧ 20 < n.toInt ∧ ((-15) : Int32).toInt = -16) ∨ ((0 ≤ n.toInt ∧ n.toInt ≤ si.toInt ∧ n.toInt ≤ 20) ∧ ((-15) : Int32).toInt = zJg kf af tf cn.toInt hu.toInt fe n.toInt.toNat 0 de.toInt se.toInt))))) from by (have k9 : ((-15) : Int32).toInt = -15 := (by decide); omega)), trivial⟩, zRet ht hP hD [5, 6, 0, 1, 2, 3, 4] (by decide) rfl⟩, hS.F ht⟩) hS.2.2 dX7_judge_34
    · refine lv_istore (lv' := [(4, .int 4), (3, .ref h0), (0, .ref x0), (1, .int s_), (2, .int n)]) hx hb dX7_judge_21 hl (by decide) rfl (fun ls hl => ?_)
      refine lv_iload hx hb dX7_judge_23 (lv_at hl 0 rfl) ?_
      refine lv_if_eq (tgt := 35) hx hb dX7_judge_25 (by decide) (fun c_44 => ?_) (fun c_44 => ?_)
      · exact absurd c_44 (by decide)
      · refine lv_aload_n hx hb dX7_judge_28 rfl (lv_at hl 2 rfl) ?_
        refine lv_iload hx hb dX7_judge_29 (lv_at hl 0 rfl) ?_
        skip
        refine zw_V (As := [.int 4]) (rest := []) (wr := [(xs, .inl (cS, 8, .inr (.inr (.inr (.inr fh))))), (h0, .inr (4, [.ref e0, .int he, .int si])), (e0, .inl (cJ, 160, .inr (.inl fe))), (j0, .inr (0, [.ref z0, .ref jp, .ref jc, .int cn, .int de, .int tr, .int se, .int hu, .int sd])), (jp, .inl (cP, 8, .inr (.inr (.inr (.inr fp)))))]) ⟨hx, hb, hml, hown, hts⟩ (c_X_refuseLower_4 l D cI cJ cZ cP cS po x0 xs j0 k0 w0 rd mv xr (im) (lf) fr hy0 hy1 hy2 hy3 H.size) (cwV 1 hts gX7_judge_X7_refuseLower rfl rfl rfl ⟨rfl, dh_X7_refuseLower⟩ ⟨Nat.le_of_ble_eq_true rfl, Nat.le_of_ble_eq_true rfl⟩) hK hN (hZ.kept hS) hP hD hS hA [0, 1] [2, 3, 4, 5, 6] rfl rfl (by decide) (by decide) (by decide) (va_recv (q := (RX7, TX7, 9)) hK hP (ci := 7) (q0 := 0) rfl rfl) rfl hl.1 rfl (Nat.le_of_ble_eq_true rfl) dX7_judge_31 ⟨Nat.le_of_ble_eq_true rfl, Nat.le_of_ble_eq_true rfl⟩ (fun r_45 u_46 H locs hr_45 hP hD hS => ?_)
        obtain ⟨q_47, rfl⟩ : ∃ z, z = u_46 := ⟨_, rfl⟩
        have h9R := zRe (ws' := [(xs, .inl (cS, 8, .inr (.inr (.inr (.inr fh))))), (h0, .inr (4, [.ref e0, .int he, .int si])), (e0, .inl (cJ, 160, .inr (.inl fe))), (j0, .inr (0, [.ref z0, .ref jp, .ref jc, .int cn, .int de, .int tr, .int se, .int hu, .int sd])), (jp, .inl (cP, 8, .inr (.inr (.inr (.inr fp))))), (x0, .inr (7, [.ref xs, .ref j0, .ref k0, .ref w0, .ref rd, .ref mv, .ref xr, .int im, .int lf])), (xr, .inl (cI, 8, .inl q_47))]) hP hD rfl
        clear hP hD
        obtain ⟨hP, hD⟩ := h9R
        obtain rfl := hr_45
        exact W.iret (v := (-14)) hx hb hr (fun t ht hW => ⟨⟨(-14), q_47, rfl, ⟨(show ((s_.toInt < 0 ∨ 7 < s_.toInt) ∧ ((-14) : Int32).toInt = -11) ∨ ((0 ≤ s_.toInt ∧ s_.toInt ≤ 7) ∧ ((he.toInt = -1 ∧ ((-14) : Int32).toInt = -13) ∨ (he.toInt ≠ -1 ∧ he.toInt < 100 ∧ ((-14) : Int32).toInt = -12) ∨ (100 ≤ he.toInt ∧ ((n.toInt < 0 ∧ ((-14) : Int32).toInt = -14) ∨ (0 ≤ n.toInt ∧ si.toInt < n.toInt ∧ ((-14) : Int32).toInt = -15) ∨ (0 ≤ n.toInt ∧ n.toInt ≤ si.toInt ∧ 20 < n.toInt ∧ ((-14) : Int32).toInt = -16) ∨ ((0 ≤ n.toInt ∧ n.toInt ≤ si.toInt ∧ n.toInt ≤ 20) ∧ ((-14) : Int32).toInt = zJg kf af tf cn.toInt hu.toInt fe n.toInt.toNat 0 de.toInt se.toInt))))) from by (have k9 : ((-14) : Int32).toInt = -14 := (by decide); omega)), trivial⟩, zRet ht hP hD [5, 6, 0, 1, 2, 3, 4] (by decide) rfl⟩, hS.F ht⟩) hS.2.2 dX7_judge_34
end
section
set_option maxHeartbeats 4000000 in
set_option maxRecDepth 100000 in
theorem c_F_M_mayBe (l : Launch) (D : va_G) (cI cJ cZ cP cS : ClassId) (po : zPool) (m0 mrf mki mpa mta mla msl mco mhe mso msi msh mce mca mwo mnu mte mwa mke mma mth mtr : Nat) (npu nte nat_ nde nto nse nhu nga nsd nfa nba npl nen nnu nwr nra nik : Int32) (gta : Nat → Int32) (p_ d sec : Int32) (hy0 : 0 ≤ npu.toInt) (hy1 : npu.toInt ≤ 8) (hy2 : 4 ≤ nte.toInt) (hy3 : nte.toInt ≤ 40) (hy4 : 0 ≤ nat_.toInt) (hy5 : nat_.toInt ≤ 40) (hy6 : 0 ≤ nde.toInt) (hy7 : nde.toInt ≤ 24) (hy8 : 0 ≤ nhu.toInt) (hy9 : nhu.toInt ≤ 9) (hy10 : 0 ≤ nra.toInt) (hy11 : nra.toInt ≤ 2000) (hy12 : 0 ≤ nik.toInt) (hy13 : nik.toInt ≤ 1) (hy14 : 0 ≤ p_.toInt) (hy15 : p_.toInt ≤ 7) (hp_gta : zRg gta (0) 60) : Met l yX8_mayBe wsX8_mayBe ({ frames := 0, cells := 0, slots := 0, locals := 0 }) (va_Pc [.ref m0, .int p_, .int d, .int sec] (zR D (zKT cI cJ cZ cP cS) po [(zMO m0 npu nte nat_ nde nto nse nhu nga nsd nfa mrf mki mpa mta mla msl mco mhe mso msi msh mce mca mwo mnu mte nba npl nen nnu nwr mwa mke mma mth mtr nra nik), (mta, .inl (cI, 8, .inl gta))])) (vp_Si (fun r => 0 ≤ r.toInt ∧ r.toInt ≤ 1 ∧ ((r.toInt = 1 ↔ (1 ≤ d.toInt ∧ (gta p_.toNatClampNeg).toInt ≤ sec.toInt))))) 0 0 (fun _ => False) := by
  refine Met.ofW (cc := cX8_mayBe) (maxL := 4) (ret := (some .boolean)) (by decide) rfl ?_
  intro p e s m args below meth c s₁ B hml hv
  obtain ⟨rfl, hP, hK, hN, hZ⟩ := hv
  have hx := B.exec
  have hb := B.bytes
  have hr := B.returns
  have hts := atoms_spec (ws := wsX8_mayBe) B.pre
  have hown : s.vm.findClass RX8 = some m.cls := findClass_of_methodNamed B.named
  have hlocks := B.notSynchronized
  have hl := lv_entry ([.ref m0, .int p_, .int d, .int sec]) (n := 4) (Nat.le_of_ble_eq_true rfl)
  rw [lg_entry_eq]
  generalize (lg_sl ([.ref m0, .int p_, .int d, .int sec]) ++ List.replicate (4 - (lg_sl ([.ref m0, .int p_, .int d, .int sec])).length) Slot.unset).toArray = ls at hl ⊢
  replace hl : lv_has ls 4 [(0, .ref m0), (1, .int p_), (2, .int d), (3, .int sec)] := hl
  refine lv_iload_n hx hb dX8_mayBe_0 rfl (lv_at hl 2 rfl) ?_
  refine lv_iconst (v := 1) hx hb dX8_mayBe_1 (by decide) ?_
  refine lv_icmp_lt (tgt := 19) hx hb dX8_mayBe_2 (by decide) (fun c_1 => ?_) (fun c_1 => ?_)
  · have fc_1 : d.toInt < 1 := zf_lt c_1 rfl (by decide)
    refine lv_iconst (v := 0) hx hb dX8_mayBe_19 (by decide) ?_
    exact W.zret (v := 0) hx hb hr (by decide) (fun t ht hW => ⟨0, rfl, ⟨by decide, by decide, (show ((0 : Int32).toInt = 1 ↔ (1 ≤ d.toInt ∧ (gta p_.toNatClampNeg).toInt ≤ sec.toInt)) from by (have k9 : (0 : Int32).toInt = 0 := (by decide); omega))⟩, ht⟩) (fun q hq => by cases hq) dX8_mayBe_20
  · have fc_1 : 1 ≤ d.toInt := zf_nlt c_1 rfl (by decide)
    refine lv_iload_n hx hb dX8_mayBe_5 rfl (lv_at hl 3 rfl) ?_
    refine lv_aload_n hx hb dX8_mayBe_6 rfl (lv_at hl 0 rfl) ?_
    refine va_get (D := D) (ci := 8) (v := .ref mta) (C := RX8) (T := TX8) (N := 38) hx hb hts hi_X8_mayBe_8 hown hK hP 0 rfl rfl 13 (by decide) (hts (.fieldLink RX8 35 "TheLiningsInItModel" "takes" "[I") (List.mem_of_getElem? (i := 1) rfl)) (fun _ h9 => h9) rfl dX8_mayBe_7 ?_
    refine lv_iload_n hx hb dX8_mayBe_10 rfl (lv_at hl 1 rfl) ?_
    refine va_iald hx hb hK hP 1 0 rfl rfl (zf_in (by omega) (by omega)) dX8_mayBe_11 ?_
    refine lv_topi (fun x_2 ex_2 => ?_)
    have bx_2 : 0 ≤ x_2.toInt ∧ x_2.toInt ≤ 60 := by rw [ex_2]; exact hp_gta _
    refine lv_icmp_lt (tgt := 19) hx hb dX8_mayBe_12 (by decide) (fun c_3 => ?_) (fun c_3 => ?_)
    · have fc_3 : sec.toInt < x_2.toInt := zf_lt c_3 rfl rfl
      refine lv_iconst (v := 0) hx hb dX8_mayBe_19 (by decide) ?_
      exact W.zret (v := 0) hx hb hr (by decide) (fun t ht hW => ⟨0, rfl, ⟨by decide, by decide, (show ((0 : Int32).toInt = 1 ↔ (1 ≤ d.toInt ∧ (gta p_.toNatClampNeg).toInt ≤ sec.toInt)) from by (have k9 : (0 : Int32).toInt = 0 := (by decide); rw [← ex_2]; omega))⟩, ht⟩) (fun q hq => by cases hq) dX8_mayBe_20
    · have fc_3 : x_2.toInt ≤ sec.toInt := zf_nlt c_3 rfl rfl
      refine lv_iconst (v := 1) hx hb dX8_mayBe_15 (by decide) ?_
      refine lv_goto (tgt := 20) hx hb dX8_mayBe_16 (by decide) ?_
      exact W.zret (v := 1) hx hb hr (by decide) (fun t ht hW => ⟨1, rfl, ⟨by decide, by decide, (show ((1 : Int32).toInt = 1 ↔ (1 ≤ d.toInt ∧ (gta p_.toNatClampNeg).toInt ≤ sec.toInt)) from by (have k9 : (1 : Int32).toInt = 1 := (by decide); rw [← ex_2]; omega))⟩, ht⟩) (fun q hq => by cases hq) dX8_mayBe_20
set_option maxHeartbeats 4000000 in
set_option maxRecDepth 100000 in
theorem c_F_M_mostCases_0 (l : Launch) (D : va_G) (cI cJ cZ cP cS : ClassId) (po : zPool) (m0 mrf mki mpa mta mla msl mco mhe mso msi msh mce mca mwo mnu mte mwa mke mma mth mtr : Nat) (npu nte nat_ nde nto nse nhu nga nsd nfa nba npl nen nnu nwr nra nik : Int32) (gki gpa gta : Nat → Int32) (d sec wh : Int32) (hy0 : 0 ≤ npu.toInt) (hy1 : npu.toInt ≤ 8) (hy2 : 4 ≤ nte.toInt) (hy3 : nte.toInt ≤ 40) (hy4 : 0 ≤ nat_.toInt) (hy5 : nat_.toInt ≤ 40) (hy6 : 0 ≤ nde.toInt) (hy7 : nde.toInt ≤ 24) (hy8 : 0 ≤ nhu.toInt) (hy9 : nhu.toInt ≤ 9) (hy10 : 0 ≤ nra.toInt) (hy11 : nra.toInt ≤ 2000) (hy12 : 0 ≤ nik.toInt) (hy13 : nik.toInt ≤ 1) (hy14 : 0 ≤ d.toInt) (hy15 : d.toInt ≤ 24) (hy16 : 0 ≤ sec.toInt) (hy17 : sec.toInt ≤ 300) (hy18 : 0 ≤ wh.toInt) (hy19 : wh.toInt ≤ 1) (hp_gki : zRg gki (0) 6) (hp_gpa : zRg gpa (0) 9) (hp_gta : zRg gta (0) 60) : Met l yX8_mostCases wsX8_mostCases ({ frames := 1, cells := 0, slots := 0, locals := 21 }) (va_Pc [.ref m0, .int 0, .int d, .int sec, .int wh] (zR D (zKT cI cJ cZ cP cS) po [(zMO m0 npu nte nat_ nde nto nse nhu nga nsd nfa mrf mki mpa mta mla msl mco mhe mso msi msh mce mca mwo mnu mte nba npl nen nnu nwr mwa mke mma mth mtr nra nik), (mki, .inl (cI, 8, .inl gki)), (mpa, .inl (cI, 8, .inl gpa)), (mta, .inl (cI, 8, .inl gta))])) (vp_Si (fun r => 0 ≤ r.toInt ∧ r.toInt ≤ 1 ∧ (r.toInt = (zM gki gpa gta npu.toInt.toNat nhu.toInt (if wh.toInt = 0 then 1 else 0) 0) d.toInt sec.toInt))) 0 0 (fun _ => False) := by
  refine Met.ofW (cc := cX8_mostCases) (maxL := 8) (ret := (some .int)) (by decide) rfl ?_
  intro p e s m args below meth c s₁ B hml hv
  obtain ⟨rfl, hP, hK, hN, hZ⟩ := hv
  have hx := B.exec
  have hb := B.bytes
  have hr := B.returns
  have hts := atoms_spec (ws := wsX8_mostCases) B.pre
  have hown : s.vm.findClass RX8 = some m.cls := findClass_of_methodNamed B.named
  have hlocks := B.notSynchronized
  have hl := lv_entry ([.ref m0, .int 0, .int d, .int sec, .int wh]) (n := 8) (Nat.le_of_ble_eq_true rfl)
  rw [lg_entry_eq]
  generalize (lg_sl ([.ref m0, .int 0, .int d, .int sec, .int wh]) ++ List.replicate (8 - (lg_sl ([.ref m0, .int 0, .int d, .int sec, .int wh])).length) Slot.unset).toArray = ls at hl ⊢
  replace hl : lv_has ls 8 [(0, .ref m0), (1, .int 0), (2, .int d), (3, .int sec), (4, .int wh)] := hl
  refine lv_iload_n hx hb dX8_mostCases_0 rfl (lv_at hl 2 rfl) ?_
  refine lv_if_ne (tgt := 10) hx hb dX8_mostCases_1 (by decide) (fun c_1 => ?_) (fun c_1 => ?_)
  · have fc_1 : d.toInt ≠ 0 := zf_ne c_1 rfl (by decide)
    refine lv_iload_n hx hb dX8_mostCases_10 rfl (lv_at hl 1 rfl) ?_
    refine lv_if_ne (tgt := 16) hx hb dX8_mostCases_11 (by decide) (fun c_2 => ?_) (fun c_2 => ?_)
    · exact absurd c_2 (by decide)
    · refine lv_iconst (v := 0) hx hb dX8_mostCases_14 (by decide) ?_
      exact W.iret (v := 0) hx hb hr (fun t ht hW => ⟨0, rfl, ⟨by decide, by decide, (show (0 : Int32).toInt = (zM gki gpa gta npu.toInt.toNat nhu.toInt (if wh.toInt = 0 then 1 else 0) 0) d.toInt sec.toInt from by (have k9 : (0 : Int32).toInt = 0 := (by decide); rw [zM_0]; first | (rw [if_neg (by omega)]; omega) | (rw [if_pos (by omega)]; omega)))⟩, ht⟩) (fun q hq => by cases hq) dX8_mostCases_15
  · have fc_1 : d.toInt = 0 := zf_eq c_1 rfl (by decide)
    refine lv_aload_n hx hb dX8_mostCases_4 rfl (lv_at hl 0 rfl) ?_
    refine lv_iload_n hx hb dX8_mostCases_5 rfl (lv_at hl 1 rfl) ?_
    refine zc_V (As := [.int 0]) (rest := []) ⟨hx, hb, hml, hown, hts⟩ (c_M_power_0 l D cI cJ cZ cP cS po m0 mrf mki mpa mta mla msl mco mhe mso msi msh mce mca mwo mnu mte mwa mke mma mth mtr (npu) (nte) (nat_) (nde) (nto) (nse) (nhu) (nga) (nsd) (nfa) (nba) (npl) (nen) (nnu) (nwr) (nra) (nik) hy0 hy1 hy2 hy3 hy4 hy5 hy6 hy7 hy8 hy9 hy10 hy11 hy12 hy13) (cwV 1 hts gX8_mostCases_X8_power rfl rfl rfl ⟨rfl, dh_X8_power⟩ ⟨Nat.le_of_ble_eq_true rfl, Nat.le_of_ble_eq_true rfl⟩) hK hN hZ hP (hP.sub [0] rfl) (va_recv (q := (RX8, TX8, 38)) hK hP (ci := 8) (q0 := 0) rfl rfl) rfl hl.1 rfl (Nat.le_of_ble_eq_true rfl) dX8_mostCases_6 ⟨Nat.le_of_ble_eq_true rfl, Nat.le_of_ble_eq_true rfl⟩ (fun r_3 hr_3 => ?_)
    obtain rfl := hr_3
    exact W.iret (v := 1) hx hb hr (fun t ht hW => ⟨1, rfl, ⟨by decide, by decide, (show (1 : Int32).toInt = (zM gki gpa gta npu.toInt.toNat nhu.toInt (if wh.toInt = 0 then 1 else 0) 0) d.toInt sec.toInt from by (have k9 : (1 : Int32).toInt = 1 := (by decide); rw [zM_0]; first | (rw [if_pos (by omega)]; omega) | (rw [if_neg (by omega)]; omega)))⟩, ht⟩) (fun q hq => by cases hq) dX8_mostCases_9
set_option maxHeartbeats 4000000 in
set_option maxRecDepth 100000 in
theorem c_F_M_casesBy_1 (l : Launch) (D : va_G) (cI cJ cZ cP cS : ClassId) (po : zPool) (m0 mrf mki mpa mta mla msl mco mhe mso msi msh mce mca mwo mnu mte mwa mke mma mth mtr : Nat) (npu nte nat_ nde nto nse nhu nga nsd nfa nba npl nen nnu nwr nra nik : Int32) (gki gpa gta : Nat → Int32) (p_ d sec wh : Int32) (hy0 : 0 ≤ npu.toInt) (hy1 : npu.toInt ≤ 8) (hy2 : 4 ≤ nte.toInt) (hy3 : nte.toInt ≤ 40) (hy4 : 0 ≤ nat_.toInt) (hy5 : nat_.toInt ≤ 40) (hy6 : 0 ≤ nde.toInt) (hy7 : nde.toInt ≤ 24) (hy8 : 0 ≤ nhu.toInt) (hy9 : nhu.toInt ≤ 9) (hy10 : 0 ≤ nra.toInt) (hy11 : nra.toInt ≤ 2000) (hy12 : 0 ≤ nik.toInt) (hy13 : nik.toInt ≤ 1) (hy14 : 0 ≤ p_.toInt) (hy15 : p_.toInt ≤ 7) (hy16 : 0 ≤ d.toInt) (hy17 : d.toInt ≤ 24) (hy18 : 0 ≤ sec.toInt) (hy19 : sec.toInt ≤ 300) (hy20 : 0 ≤ wh.toInt) (hy21 : wh.toInt ≤ 1) (htl : (gta p_.toNatClampNeg).toInt ≤ sec.toInt) (hp_gki : zRg gki (0) 6) (hp_gpa : zRg gpa (0) 9) (hp_gta : zRg gta (0) 60) : Met l yX8_casesBy wsX8_casesBy ({ frames := 2, cells := 0, slots := 0, locals := 48 }) (va_Pc [.ref m0, .int p_, .int 1, .int d, .int sec, .int wh] (zR D (zKT cI cJ cZ cP cS) po [(zMO m0 npu nte nat_ nde nto nse nhu nga nsd nfa mrf mki mpa mta mla msl mco mhe mso msi msh mce mca mwo mnu mte nba npl nen nnu nwr mwa mke mma mth mtr nra nik), (mki, .inl (cI, 8, .inl gki)), (mpa, .inl (cI, 8, .inl gpa)), (mta, .inl (cI, 8, .inl gta))])) (vp_Si (fun r => 0 ≤ r.toInt ∧ r.toInt ≤ 12 ∧ (r.toInt = zBy1 (zM gki gpa gta npu.toInt.toNat nhu.toInt (if wh.toInt = 0 then 1 else 0) 0) (gki p_.toNatClampNeg).toInt (gpa p_.toNatClampNeg).toInt (gta p_.toNatClampNeg).toInt nhu.toInt d.toInt sec.toInt))) 0 0 (fun _ => False) := by
  refine Met.ofW (cc := cX8_casesBy) (maxL := 8) (ret := (some .int)) (by decide) rfl ?_
  intro p e s m args below meth c s₁ B hml hv
  obtain ⟨rfl, hP, hK, hN, hZ⟩ := hv
  have hx := B.exec
  have hb := B.bytes
  have hr := B.returns
  have hts := atoms_spec (ws := wsX8_casesBy) B.pre
  have hown : s.vm.findClass RX8 = some m.cls := findClass_of_methodNamed B.named
  have hlocks := B.notSynchronized
  have hl := lv_entry ([.ref m0, .int p_, .int 1, .int d, .int sec, .int wh]) (n := 8) (Nat.le_of_ble_eq_true rfl)
  rw [lg_entry_eq]
  generalize (lg_sl ([.ref m0, .int p_, .int 1, .int d, .int sec, .int wh]) ++ List.replicate (8 - (lg_sl ([.ref m0, .int p_, .int 1, .int d, .int sec, .int wh])).length) Slot.unset).toArray = ls at hl ⊢
  replace hl : lv_has ls 8 [(0, .ref m0), (1, .int p_), (2, .int 1), (3, .int d), (4, .int sec), (5, .int wh)] := hl
  refine lv_aload_n hx hb dX8_casesBy_0 rfl (lv_at hl 0 rfl) ?_
  refine lv_iload_n hx hb dX8_casesBy_1 rfl (lv_at hl 1 rfl) ?_
  refine lv_iload_n hx hb dX8_casesBy_2 rfl (lv_at hl 3 rfl) ?_
  refine zc_V (As := [.int p_, .int d]) (rest := []) ⟨hx, hb, hml, hown, hts⟩ (c_F_M_ways l D cI cJ cZ cP cS po m0 mrf mki mpa mta mla msl mco mhe mso msi msh mce mca mwo mnu mte mwa mke mma mth mtr (npu) (nte) (nat_) (nde) (nto) (nse) (nhu) (nga) (nsd) (nfa) (nba) (npl) (nen) (nnu) (nwr) (nra) (nik) gki gpa (p_) (d) hy0 hy1 hy2 hy3 hy4 hy5 hy6 hy7 hy8 hy9 hy10 hy11 hy12 hy13 hy14 hy15 hy16 hy17 hp_gki hp_gpa) (cwV 2 hts gX8_casesBy_X8_ways rfl rfl rfl ⟨rfl, dh_X8_ways⟩ ⟨Nat.le_of_ble_eq_true rfl, Nat.le_of_ble_eq_true rfl⟩) hK hN hZ hP (hP.sub [0, 1, 2] rfl) (va_recv (q := (RX8, TX8, 38)) hK hP (ci := 8) (q0 := 0) rfl rfl) rfl hl.1 rfl (Nat.le_of_ble_eq_true rfl) dX8_casesBy_3 ⟨Nat.le_of_ble_eq_true rfl, Nat.le_of_ble_eq_true rfl⟩ (fun r_1 hr_1 => ?_)
  obtain ⟨g_2, g_3, hsr_1_0⟩ := hr_1
  refine lv_istore (lv' := [(6, .int r_1), (0, .ref m0), (1, .int p_), (2, .int 1), (3, .int d), (4, .int sec), (5, .int wh)]) hx hb dX8_casesBy_6 hl (by decide) rfl (fun ls hl => ?_)
  refine lv_iload hx hb dX8_casesBy_8 (lv_at hl 0 rfl) ?_
  refine lv_if_ne (tgt := 17) hx hb dX8_casesBy_10 (by decide) (fun c_4 => ?_) (fun c_4 => ?_)
  · have fc_4 : r_1.toInt ≠ 0 := zf_ne c_4 rfl (by decide)
    refine lv_iload hx hb dX8_casesBy_17 (lv_at hl 0 rfl) ?_
    refine lv_aload_n hx hb dX8_casesBy_19 rfl (lv_at hl 1 rfl) ?_
    refine lv_iload_n hx hb dX8_casesBy_20 rfl (lv_at hl 3 rfl) ?_
    refine lv_iconst (v := 1) hx hb dX8_casesBy_21 (by decide) ?_
    refine lv_isub hx hb dX8_casesBy_22 ?_
    refine lv_topi (fun y_5 ey_5 => ?_)
    obtain rfl : y_5 = 0 := ey_5.trans (by decide)
    refine lv_aload_n hx hb dX8_casesBy_23 rfl (lv_at hl 1 rfl) ?_
    refine lv_iload_n hx hb dX8_casesBy_24 rfl (lv_at hl 2 rfl) ?_
    refine lv_iload_n hx hb dX8_casesBy_25 rfl (lv_at hl 4 rfl) ?_
    refine lv_iconst (v := 1) hx hb dX8_casesBy_26 (by decide) ?_
    have kc1 : (1 : Int32).toInt = 1 := by decide
    refine zc_V (As := [.int p_, .int d, .int 1]) (rest := [.int 0, .ref m0, .int r_1]) ⟨hx, hb, hml, hown, hts⟩ (c_F_M_deep l D cI cJ cZ cP cS po m0 mrf mki mpa mta mla msl mco mhe mso msi msh mce mca mwo mnu mte mwa mke mma mth mtr (npu) (nte) (nat_) (nde) (nto) (nse) (nhu) (nga) (nsd) (nfa) (nba) (npl) (nen) (nnu) (nwr) (nra) (nik) gki gpa (p_) (d) (1) hy0 hy1 hy2 hy3 hy4 hy5 hy6 hy7 hy8 hy9 hy10 hy11 hy12 hy13 hy14 hy15 hy16 hy17 (by omega) (by omega) hp_gki hp_gpa) (cwV 3 hts gX8_casesBy_X8_deep rfl rfl rfl ⟨rfl, dh_X8_deep⟩ ⟨Nat.le_of_ble_eq_true rfl, Nat.le_of_ble_eq_true rfl⟩) hK hN hZ hP (hP.sub [0, 1, 2] rfl) (va_recv (q := (RX8, TX8, 38)) hK hP (ci := 8) (q0 := 0) rfl rfl) rfl hl.1 rfl (Nat.le_of_ble_eq_true rfl) dX8_casesBy_27 ⟨Nat.le_of_ble_eq_true rfl, Nat.le_of_ble_eq_true rfl⟩ (fun r_6 hr_6 => ?_)
    obtain ⟨g_7, g_8, hsr_6_0⟩ := hr_6
    refine lv_iload hx hb dX8_casesBy_30 (lv_at hl 5 rfl) ?_
    refine lv_aload_n hx hb dX8_casesBy_32 rfl (lv_at hl 1 rfl) ?_
    refine va_get (D := D) (ci := 8) (v := .ref mta) (C := RX8) (T := TX8) (N := 38) hx hb hts hi_X8_casesBy_8 hown hK hP 0 rfl rfl 13 (by decide) (hts (.fieldLink RX8 35 "TheLiningsInItModel" "takes" "[I") (List.mem_of_getElem? (i := 1) rfl)) (fun _ h9 => h9) rfl dX8_casesBy_33 ?_
    refine lv_iload_n hx hb dX8_casesBy_36 rfl (lv_at hl 2 rfl) ?_
    refine va_iald hx hb hK hP 3 0 rfl rfl (zf_in (by omega) (by omega)) dX8_casesBy_37 ?_
    refine lv_topi (fun x_9 ex_9 => ?_)
    have bx_9 : 0 ≤ x_9.toInt ∧ x_9.toInt ≤ 60 := by rw [ex_9]; exact hp_gta _
    have htx_9 : x_9.toInt ≤ sec.toInt := by (rw [ex_9]; exact htl)
    refine lv_isub hx hb dX8_casesBy_38 ?_
    refine lv_topi (fun x_10 ex_10 => ?_)
    have qx_10 : x_10.toInt = sec.toInt - x_9.toInt := by rw [ex_10]; exact zf_sub rfl rfl (by omega) (by omega)
    refine lv_iload hx hb dX8_casesBy_39 (lv_at hl 6 rfl) ?_
    refine zc_V (As := [.int 0, .int r_6, .int x_10, .int wh]) (rest := [.int r_1]) ⟨hx, hb, hml, hown, hts⟩ (c_F_M_mostCases_0 l D cI cJ cZ cP cS po m0 mrf mki mpa mta mla msl mco mhe mso msi msh mce mca mwo mnu mte mwa mke mma mth mtr (npu) (nte) (nat_) (nde) (nto) (nse) (nhu) (nga) (nsd) (nfa) (nba) (npl) (nen) (nnu) (nwr) (nra) (nik) gki gpa gta (r_6) (x_10) (wh) hy0 hy1 hy2 hy3 hy4 hy5 hy6 hy7 hy8 hy9 hy10 hy11 hy12 hy13 (by omega) (by omega) (by omega) (by omega) hy20 hy21 hp_gki hp_gpa hp_gta) (cwV 4 hts gX8_casesBy_X8_mostCases rfl rfl rfl ⟨rfl, dh_X8_mostCases⟩ ⟨Nat.le_of_ble_eq_true rfl, Nat.le_of_ble_eq_true rfl⟩) hK hN hZ hP (hP.sub [0, 1, 2, 3] rfl) (va_recv (q := (RX8, TX8, 38)) hK hP (ci := 8) (q0 := 0) rfl rfl) rfl hl.1 rfl (Nat.le_of_ble_eq_true rfl) dX8_casesBy_41 ⟨Nat.le_of_ble_eq_true rfl, Nat.le_of_ble_eq_true rfl⟩ (fun r_11 hr_11 => ?_)
    obtain ⟨g_12, g_13, hsr_11_0⟩ := hr_11
    refine lv_imul hx hb dX8_casesBy_44 ?_
    refine lv_topi (fun x_14 ex_14 => ?_)
    obtain ⟨mx_14, nx_14, ox_14⟩ := zf_mulc (a := r_1) (b := r_11) (x := r_1.toInt) (y := r_11.toInt) (P := 1) rfl rfl ⟨by omega, by omega⟩ ⟨by omega, by omega⟩ (by decide)
    rw [← ex_14] at mx_14
    refine lv_istore (lv' := [(7, .int x_14), (6, .int r_1), (0, .ref m0), (1, .int p_), (2, .int 1), (3, .int d), (4, .int sec), (5, .int wh)]) hx hb dX8_casesBy_45 hl (by decide) rfl (fun ls hl => ?_)
    refine lv_iload hx hb dX8_casesBy_47 (lv_at hl 1 rfl) ?_
    refine lv_bipush (v := 12) hx hb dX8_casesBy_49 (by decide) ?_
    refine lv_icmp_ne (tgt := 59) hx hb dX8_casesBy_51 (by decide) (fun c_15 => ?_) (fun c_15 => ?_)
    · have fc_15 : r_1.toInt ≠ 12 := zf_ne c_15 rfl (by decide)
      refine lv_iload hx hb dX8_casesBy_59 (lv_at hl 0 rfl) ?_
      refine lv_bipush (v := 12) hx hb dX8_casesBy_61 (by decide) ?_
      refine lv_iload hx hb dX8_casesBy_63 (lv_at hl 1 rfl) ?_
      refine lv_isub hx hb dX8_casesBy_65 ?_
      refine lv_topi (fun x_16 ex_16 => ?_)
      have qx_16 : x_16.toInt = 12 - r_1.toInt := by rw [ex_16]; exact zf_sub (by decide) rfl (by omega) (by omega)
      refine lv_aload_n hx hb dX8_casesBy_66 rfl (lv_at hl 2 rfl) ?_
      refine lv_iload_n hx hb dX8_casesBy_67 rfl (lv_at hl 4 rfl) ?_
      refine lv_iconst (v := 1) hx hb dX8_casesBy_68 (by decide) ?_
      refine lv_isub hx hb dX8_casesBy_69 ?_
      refine lv_topi (fun y_17 ey_17 => ?_)
      obtain rfl : y_17 = 0 := ey_17.trans (by decide)
      refine lv_aload_n hx hb dX8_casesBy_70 rfl (lv_at hl 2 rfl) ?_
      refine lv_iload_n hx hb dX8_casesBy_71 rfl (lv_at hl 3 rfl) ?_
      refine lv_iload_n hx hb dX8_casesBy_72 rfl (lv_at hl 5 rfl) ?_
      refine lv_iconst (v := 0) hx hb dX8_casesBy_73 (by decide) ?_
      have kc0 : (0 : Int32).toInt = 0 := by decide
      refine zc_V (As := [.int p_, .int d, .int 0]) (rest := [.int 0, .ref m0, .int x_16, .int x_14]) ⟨hx, hb, hml, hown, hts⟩ (c_F_M_deep l D cI cJ cZ cP cS po m0 mrf mki mpa mta mla msl mco mhe mso msi msh mce mca mwo mnu mte mwa mke mma mth mtr (npu) (nte) (nat_) (nde) (nto) (nse) (nhu) (nga) (nsd) (nfa) (nba) (npl) (nen) (nnu) (nwr) (nra) (nik) gki gpa (p_) (d) (0) hy0 hy1 hy2 hy3 hy4 hy5 hy6 hy7 hy8 hy9 hy10 hy11 hy12 hy13 hy14 hy15 hy16 hy17 (by omega) (by omega) hp_gki hp_gpa) (cwV 3 hts gX8_casesBy_X8_deep rfl rfl rfl ⟨rfl, dh_X8_deep⟩ ⟨Nat.le_of_ble_eq_true rfl, Nat.le_of_ble_eq_true rfl⟩) hK hN hZ hP (hP.sub [0, 1, 2] rfl) (va_recv (q := (RX8, TX8, 38)) hK hP (ci := 8) (q0 := 0) rfl rfl) rfl hl.1 rfl (Nat.le_of_ble_eq_true rfl) dX8_casesBy_74 ⟨Nat.le_of_ble_eq_true rfl, Nat.le_of_ble_eq_true rfl⟩ (fun r_18 hr_18 => ?_)
      obtain ⟨g_19, g_20, hsr_18_0⟩ := hr_18
      refine lv_iload hx hb dX8_casesBy_77 (lv_at hl 6 rfl) ?_
      refine lv_aload_n hx hb dX8_casesBy_79 rfl (lv_at hl 2 rfl) ?_
      refine va_get (D := D) (ci := 8) (v := .ref mta) (C := RX8) (T := TX8) (N := 38) hx hb hts hi_X8_casesBy_8 hown hK hP 0 rfl rfl 13 (by decide) (hts (.fieldLink RX8 35 "TheLiningsInItModel" "takes" "[I") (List.mem_of_getElem? (i := 1) rfl)) (fun _ h9 => h9) rfl dX8_casesBy_80 ?_
      refine lv_iload_n hx hb dX8_casesBy_83 rfl (lv_at hl 3 rfl) ?_
      refine va_iald hx hb hK hP 3 0 rfl rfl (zf_in (by omega) (by omega)) dX8_casesBy_84 ?_
      refine lv_topi (fun y_21 ey_21 => ?_)
      obtain rfl : x_9 = y_21 := ex_9.trans ey_21.symm
      refine lv_isub hx hb dX8_casesBy_85 ?_
      refine lv_topi (fun y_22 ey_22 => ?_)
      obtain rfl : x_10 = y_22 := ex_10.trans ey_22.symm
      refine lv_iload hx hb dX8_casesBy_86 (lv_at hl 7 rfl) ?_
      refine zc_V (As := [.int 0, .int r_18, .int x_10, .int wh]) (rest := [.int x_16, .int x_14]) ⟨hx, hb, hml, hown, hts⟩ (c_F_M_mostCases_0 l D cI cJ cZ cP cS po m0 mrf mki mpa mta mla msl mco mhe mso msi msh mce mca mwo mnu mte mwa mke mma mth mtr (npu) (nte) (nat_) (nde) (nto) (nse) (nhu) (nga) (nsd) (nfa) (nba) (npl) (nen) (nnu) (nwr) (nra) (nik) gki gpa gta (r_18) (x_10) (wh) hy0 hy1 hy2 hy3 hy4 hy5 hy6 hy7 hy8 hy9 hy10 hy11 hy12 hy13 (by omega) (by omega) (by omega) (by omega) hy20 hy21 hp_gki hp_gpa hp_gta) (cwV 4 hts gX8_casesBy_X8_mostCases rfl rfl rfl ⟨rfl, dh_X8_mostCases⟩ ⟨Nat.le_of_ble_eq_true rfl, Nat.le_of_ble_eq_true rfl⟩) hK hN hZ hP (hP.sub [0, 1, 2, 3] rfl) (va_recv (q := (RX8, TX8, 38)) hK hP (ci := 8) (q0 := 0) rfl rfl) rfl hl.1 rfl (Nat.le_of_ble_eq_true rfl) dX8_casesBy_88 ⟨Nat.le_of_ble_eq_true rfl, Nat.le_of_ble_eq_true rfl⟩ (fun r_23 hr_23 => ?_)
      obtain ⟨g_24, g_25, hsr_23_0⟩ := hr_23
      refine lv_imul hx hb dX8_casesBy_91 ?_
      refine lv_topi (fun x_26 ex_26 => ?_)
      obtain ⟨mx_26, nx_26, ox_26⟩ := zf_mulc (a := x_16) (b := r_23) (x := x_16.toInt) (y := r_23.toInt) (P := 1) rfl rfl ⟨by omega, by omega⟩ ⟨by omega, by omega⟩ (by decide)
      rw [← ex_26] at mx_26
      refine lv_iadd hx hb dX8_casesBy_92 ?_
      refine lv_topi (fun x_27 ex_27 => ?_)
      have qx_27 : x_27.toInt = x_14.toInt + x_26.toInt := by rw [ex_27]; exact zf_add rfl rfl (by omega) (by omega)
      have hmx9 := zMix (w := r_1.toInt) (x := r_11.toInt) (y := r_23.toInt) (P := 1) ⟨by omega, by omega⟩ ⟨by omega, by omega⟩ ⟨by omega, by omega⟩
      rw [show 12 - r_1.toInt = x_16.toInt from by omega] at hmx9
      exact W.iret (v := x_27) hx hb hr (fun t ht hW => ⟨x_27, rfl, ⟨by omega, by omega, (show (x_27 : Int32).toInt = zBy1 (zM gki gpa gta npu.toInt.toNat nhu.toInt (if wh.toInt = 0 then 1 else 0) 0) (gki p_.toNatClampNeg).toInt (gpa p_.toNatClampNeg).toInt (gta p_.toNatClampNeg).toInt nhu.toInt d.toInt sec.toInt from by (have zw := hsr_1_0; have E1 : r_1.toInt * (zM gki gpa gta npu.toInt.toNat nhu.toInt (if wh.toInt = 0 then 1 else 0) 0) (zShl (gki p_.toNatClampNeg).toInt (gpa p_.toNatClampNeg).toInt d.toInt) (sec.toInt - (gta p_.toNatClampNeg).toInt) = x_14.toInt := (by rw [← hsr_6_0.1 (by decide), show sec.toInt - (gta p_.toNatClampNeg).toInt = (x_10 : Int32).toInt from by (have z : (gta p_.toNatClampNeg).toInt = x_9.toInt := (by rw [ex_9]); omega), ← hsr_11_0]; omega); have E2 : (12 - r_1.toInt) * (zM gki gpa gta npu.toInt.toNat nhu.toInt (if wh.toInt = 0 then 1 else 0) 0) (zDpr (gki p_.toNatClampNeg).toInt (gpa p_.toNatClampNeg).toInt nhu.toInt d.toInt) (sec.toInt - (gta p_.toNatClampNeg).toInt) = x_26.toInt := (by rw [← hsr_18_0.2 (by decide), show sec.toInt - (gta p_.toNatClampNeg).toInt = (x_10 : Int32).toInt from by (have z : (gta p_.toNatClampNeg).toInt = x_9.toInt := (by rw [ex_9]); omega), ← hsr_23_0, show 12 - r_1.toInt = x_16.toInt from by omega]; omega); unfold zBy1; rw [← zw, E1, E2]; omega))⟩, ht⟩) (fun q hq => by cases hq) dX8_casesBy_93
    · have fc_15 : r_1.toInt = 12 := zf_eq c_15 rfl (by decide)
      refine lv_iload hx hb dX8_casesBy_54 (lv_at hl 0 rfl) ?_
      refine lv_goto (tgt := 93) hx hb dX8_casesBy_56 (by decide) ?_
      exact W.iret (v := x_14) hx hb hr (fun t ht hW => ⟨x_14, rfl, ⟨by omega, by omega, (show (x_14 : Int32).toInt = zBy1 (zM gki gpa gta npu.toInt.toNat nhu.toInt (if wh.toInt = 0 then 1 else 0) 0) (gki p_.toNatClampNeg).toInt (gpa p_.toNatClampNeg).toInt (gta p_.toNatClampNeg).toInt nhu.toInt d.toInt sec.toInt from by (have zw := hsr_1_0; have E1 : r_1.toInt * (zM gki gpa gta npu.toInt.toNat nhu.toInt (if wh.toInt = 0 then 1 else 0) 0) (zShl (gki p_.toNatClampNeg).toInt (gpa p_.toNatClampNeg).toInt d.toInt) (sec.toInt - (gta p_.toNatClampNeg).toInt) = x_14.toInt := (by rw [← hsr_6_0.1 (by decide), show sec.toInt - (gta p_.toNatClampNeg).toInt = (x_10 : Int32).toInt from by (have z : (gta p_.toNatClampNeg).toInt = x_9.toInt := (by rw [ex_9]); omega), ← hsr_11_0]; omega); have E2 : (12 - r_1.toInt) * (zM gki gpa gta npu.toInt.toNat nhu.toInt (if wh.toInt = 0 then 1 else 0) 0) (zDpr (gki p_.toNatClampNeg).toInt (gpa p_.toNatClampNeg).toInt nhu.toInt d.toInt) (sec.toInt - (gta p_.toNatClampNeg).toInt) = 0 := (by rw [show 12 - r_1.toInt = 0 from by omega, Int.zero_mul]); unfold zBy1; rw [← zw, E1, E2]; omega))⟩, ht⟩) (fun q hq => by cases hq) dX8_casesBy_93
  · have fc_4 : r_1.toInt = 0 := zf_eq c_4 rfl (by decide)
    refine lv_iconst (v := 0) hx hb dX8_casesBy_13 (by decide) ?_
    refine lv_goto (tgt := 45) hx hb dX8_casesBy_14 (by decide) ?_
    refine lv_istore (lv' := [(7, .int 0), (6, .int r_1), (0, .ref m0), (1, .int p_), (2, .int 1), (3, .int d), (4, .int sec), (5, .int wh)]) hx hb dX8_casesBy_45 hl (by decide) rfl (fun ls hl => ?_)
    refine lv_iload hx hb dX8_casesBy_47 (lv_at hl 1 rfl) ?_
    refine lv_bipush (v := 12) hx hb dX8_casesBy_49 (by decide) ?_
    refine lv_icmp_ne (tgt := 59) hx hb dX8_casesBy_51 (by decide) (fun c_28 => ?_) (fun c_28 => ?_)
    · have fc_28 : r_1.toInt ≠ 12 := zf_ne c_28 rfl (by decide)
      refine lv_iload hx hb dX8_casesBy_59 (lv_at hl 0 rfl) ?_
      refine lv_bipush (v := 12) hx hb dX8_casesBy_61 (by decide) ?_
      refine lv_iload hx hb dX8_casesBy_63 (lv_at hl 1 rfl) ?_
      refine lv_isub hx hb dX8_casesBy_65 ?_
      refine lv_topi (fun x_29 ex_29 => ?_)
      have qx_29 : x_29.toInt = 12 - r_1.toInt := by rw [ex_29]; exact zf_sub (by decide) rfl (by omega) (by omega)
      refine lv_aload_n hx hb dX8_casesBy_66 rfl (lv_at hl 2 rfl) ?_
      refine lv_iload_n hx hb dX8_casesBy_67 rfl (lv_at hl 4 rfl) ?_
      refine lv_iconst (v := 1) hx hb dX8_casesBy_68 (by decide) ?_
      refine lv_isub hx hb dX8_casesBy_69 ?_
      refine lv_topi (fun y_30 ey_30 => ?_)
      obtain rfl : y_30 = 0 := ey_30.trans (by decide)
      refine lv_aload_n hx hb dX8_casesBy_70 rfl (lv_at hl 2 rfl) ?_
      refine lv_iload_n hx hb dX8_casesBy_71 rfl (lv_at hl 3 rfl) ?_
      refine lv_iload_n hx hb dX8_casesBy_72 rfl (lv_at hl 5 rfl) ?_
      refine lv_iconst (v := 0) hx hb dX8_casesBy_73 (by decide) ?_
      have kc0 : (0 : Int32).toInt = 0 := by decide
      refine zc_V (As := [.int p_, .int d, .int 0]) (rest := [.int 0, .ref m0, .int x_29, .int 0]) ⟨hx, hb, hml, hown, hts⟩ (c_F_M_deep l D cI cJ cZ cP cS po m0 mrf mki mpa mta mla msl mco mhe mso msi msh mce mca mwo mnu mte mwa mke mma mth mtr (npu) (nte) (nat_) (nde) (nto) (nse) (nhu) (nga) (nsd) (nfa) (nba) (npl) (nen) (nnu) (nwr) (nra) (nik) gki gpa (p_) (d) (0) hy0 hy1 hy2 hy3 hy4 hy5 hy6 hy7 hy8 hy9 hy10 hy11 hy12 hy13 hy14 hy15 hy16 hy17 (by omega) (by omega) hp_gki hp_gpa) (cwV 3 hts gX8_casesBy_X8_deep rfl rfl rfl ⟨rfl, dh_X8_deep⟩ ⟨Nat.le_of_ble_eq_true rfl, Nat.le_of_ble_eq_true rfl⟩) hK hN hZ hP (hP.sub [0, 1, 2] rfl) (va_recv (q := (RX8, TX8, 38)) hK hP (ci := 8) (q0 := 0) rfl rfl) rfl hl.1 rfl (Nat.le_of_ble_eq_true rfl) dX8_casesBy_74 ⟨Nat.le_of_ble_eq_true rfl, Nat.le_of_ble_eq_true rfl⟩ (fun r_31 hr_31 => ?_)
      obtain ⟨g_32, g_33, hsr_31_0⟩ := hr_31
      refine lv_iload hx hb dX8_casesBy_77 (lv_at hl 6 rfl) ?_
      refine lv_aload_n hx hb dX8_casesBy_79 rfl (lv_at hl 2 rfl) ?_
      refine va_get (D := D) (ci := 8) (v := .ref mta) (C := RX8) (T := TX8) (N := 38) hx hb hts hi_X8_casesBy_8 hown hK hP 0 rfl rfl 13 (by decide) (hts (.fieldLink RX8 35 "TheLiningsInItModel" "takes" "[I") (List.mem_of_getElem? (i := 1) rfl)) (fun _ h9 => h9) rfl dX8_casesBy_80 ?_
      refine lv_iload_n hx hb dX8_casesBy_83 rfl (lv_at hl 3 rfl) ?_
      refine va_iald hx hb hK hP 3 0 rfl rfl (zf_in (by omega) (by omega)) dX8_casesBy_84 ?_
      refine lv_topi (fun x_34 ex_34 => ?_)
      have bx_34 : 0 ≤ x_34.toInt ∧ x_34.toInt ≤ 60 := by rw [ex_34]; exact hp_gta _
      have htx_34 : x_34.toInt ≤ sec.toInt := by (rw [ex_34]; exact htl)
      refine lv_isub hx hb dX8_casesBy_85 ?_
      refine lv_topi (fun x_35 ex_35 => ?_)
      have qx_35 : x_35.toInt = sec.toInt - x_34.toInt := by rw [ex_35]; exact zf_sub rfl rfl (by omega) (by omega)
      refine lv_iload hx hb dX8_casesBy_86 (lv_at hl 7 rfl) ?_
      refine zc_V (As := [.int 0, .int r_31, .int x_35, .int wh]) (rest := [.int x_29, .int 0]) ⟨hx, hb, hml, hown, hts⟩ (c_F_M_mostCases_0 l D cI cJ cZ cP cS po m0 mrf mki mpa mta mla msl mco mhe mso msi msh mce mca mwo mnu mte mwa mke mma mth mtr (npu) (nte) (nat_) (nde) (nto) (nse) (nhu) (nga) (nsd) (nfa) (nba) (npl) (nen) (nnu) (nwr) (nra) (nik) gki gpa gta (r_31) (x_35) (wh) hy0 hy1 hy2 hy3 hy4 hy5 hy6 hy7 hy8 hy9 hy10 hy11 hy12 hy13 (by omega) (by omega) (by omega) (by omega) hy20 hy21 hp_gki hp_gpa hp_gta) (cwV 4 hts gX8_casesBy_X8_mostCases rfl rfl rfl ⟨rfl, dh_X8_mostCases⟩ ⟨Nat.le_of_ble_eq_true rfl, Nat.le_of_ble_eq_true rfl⟩) hK hN hZ hP (hP.sub [0, 1, 2, 3] rfl) (va_recv (q := (RX8, TX8, 38)) hK hP (ci := 8) (q0 := 0) rfl rfl) rfl hl.1 rfl (Nat.le_of_ble_eq_true rfl) dX8_casesBy_88 ⟨Nat.le_of_ble_eq_true rfl, Nat.le_of_ble_eq_true rfl⟩ (fun r_36 hr_36 => ?_)
      obtain ⟨g_37, g_38, hsr_36_0⟩ := hr_36
      refine lv_imul hx hb dX8_casesBy_91 ?_
      refine lv_topi (fun x_39 ex_39 => ?_)
      obtain ⟨mx_39, nx_39, ox_39⟩ := zf_mulc (a := x_29) (b := r_36) (x := x_29.toInt) (y := r_36.toInt) (P := 1) rfl rfl ⟨by omega, by omega⟩ ⟨by omega, by omega⟩ (by decide)
      rw [← ex_39] at mx_39
      refine lv_iadd hx hb dX8_casesBy_92 ?_
      refine lv_topi (fun x_40 ex_40 => ?_)
      have qx_40 : x_40.toInt = 0 + x_39.toInt := by rw [ex_40]; exact zf_add (by decide) rfl (by omega) (by omega)
      exact W.iret (v := x_40) hx hb hr (fun t ht hW => ⟨x_40, rfl, ⟨by omega, by omega, (show (x_40 : Int32).toInt = zBy1 (zM gki gpa gta npu.toInt.toNat nhu.toInt (if wh.toInt = 0 then 1 else 0) 0) (gki p_.toNatClampNeg).toInt (gpa p_.toNatClampNeg).toInt (gta p_.toNatClampNeg).toInt nhu.toInt d.toInt sec.toInt from by (have zw := hsr_1_0; have E1 : r_1.toInt * (zM gki gpa gta npu.toInt.toNat nhu.toInt (if wh.toInt = 0 then 1 else 0) 0) (zShl (gki p_.toNatClampNeg).toInt (gpa p_.toNatClampNeg).toInt d.toInt) (sec.toInt - (gta p_.toNatClampNeg).toInt) = 0 := (by rw [show r_1.toInt = 0 from by omega, Int.zero_mul]); have E2 : (12 - r_1.toInt) * (zM gki gpa gta npu.toInt.toNat nhu.toInt (if wh.toInt = 0 then 1 else 0) 0) (zDpr (gki p_.toNatClampNeg).toInt (gpa p_.toNatClampNeg).toInt nhu.toInt d.toInt) (sec.toInt - (gta p_.toNatClampNeg).toInt) = x_39.toInt := (by rw [← hsr_31_0.2 (by decide), show sec.toInt - (gta p_.toNatClampNeg).toInt = (x_35 : Int32).toInt from by (have z : (gta p_.toNatClampNeg).toInt = x_34.toInt := (by rw [ex_34]); omega), ← hsr_36_0, show 12 - r_1.toInt = x_29.toInt from by omega]; omega); unfold zBy1; rw [← zw, E1, E2]; omega))⟩, ht⟩) (fun q hq => by cases hq) dX8_casesBy_93
    · exfalso; have fc_28 : r_1.toInt = 12 := zf_eq c_28 rfl (by decide); omega
set_option maxHeartbeats 4000000 in
set_option maxRecDepth 100000 in
theorem c_F_M_mostCases_1 (l : Launch) (D : va_G) (cI cJ cZ cP cS : ClassId) (po : zPool) (m0 mrf mki mpa mta mla msl mco mhe mso msi msh mce mca mwo mnu mte mwa mke mma mth mtr : Nat) (npu nte nat_ nde nto nse nhu nga nsd nfa nba npl nen nnu nwr nra nik : Int32) (gki gpa gta : Nat → Int32) (d sec wh : Int32) (hy0 : 0 ≤ npu.toInt) (hy1 : npu.toInt ≤ 8) (hy2 : 4 ≤ nte.toInt) (hy3 : nte.toInt ≤ 40) (hy4 : 0 ≤ nat_.toInt) (hy5 : nat_.toInt ≤ 40) (hy6 : 0 ≤ nde.toInt) (hy7 : nde.toInt ≤ 24) (hy8 : 0 ≤ nhu.toInt) (hy9 : nhu.toInt ≤ 9) (hy10 : 0 ≤ nra.toInt) (hy11 : nra.toInt ≤ 2000) (hy12 : 0 ≤ nik.toInt) (hy13 : nik.toInt ≤ 1) (hy14 : 0 ≤ d.toInt) (hy15 : d.toInt ≤ 24) (hy16 : 0 ≤ sec.toInt) (hy17 : sec.toInt ≤ 300) (hy18 : 0 ≤ wh.toInt) (hy19 : wh.toInt ≤ 1) (hp_gki : zRg gki (0) 6) (hp_gpa : zRg gpa (0) 9) (hp_gta : zRg gta (0) 60) : Met l yX8_mostCases wsX8_mostCases ({ frames := 3, cells := 0, slots := 0, locals := 75 }) (va_Pc [.ref m0, .int 1, .int d, .int sec, .int wh] (zR D (zKT cI cJ cZ cP cS) po [(zMO m0 npu nte nat_ nde nto nse nhu nga nsd nfa mrf mki mpa mta mla msl mco mhe mso msi msh mce mca mwo mnu mte nba npl nen nnu nwr mwa mke mma mth mtr nra nik), (mki, .inl (cI, 8, .inl gki)), (mpa, .inl (cI, 8, .inl gpa)), (mta, .inl (cI, 8, .inl gta))])) (vp_Si (fun r => 0 ≤ r.toInt ∧ r.toInt ≤ 12 ∧ (r.toInt = (zM gki gpa gta npu.toInt.toNat nhu.toInt (if wh.toInt = 0 then 1 else 0) 1) d.toInt sec.toInt))) 0 0 (fun _ => False) := by
  refine Met.ofW (cc := cX8_mostCases) (maxL := 8) (ret := (some .int)) (by decide) rfl ?_
  intro p e s m args below meth c s₁ B hml hv
  obtain ⟨rfl, hP, hK, hN, hZ⟩ := hv
  have hx := B.exec
  have hb := B.bytes
  have hr := B.returns
  have hts := atoms_spec (ws := wsX8_mostCases) B.pre
  have hown : s.vm.findClass RX8 = some m.cls := findClass_of_methodNamed B.named
  have hlocks := B.notSynchronized
  have hl := lv_entry ([.ref m0, .int 1, .int d, .int sec, .int wh]) (n := 8) (Nat.le_of_ble_eq_true rfl)
  rw [lg_entry_eq]
  generalize (lg_sl ([.ref m0, .int 1, .int d, .int sec, .int wh]) ++ List.replicate (8 - (lg_sl ([.ref m0, .int 1, .int d, .int sec, .int wh])).length) Slot.unset).toArray = ls at hl ⊢
  replace hl : lv_has ls 8 [(0, .ref m0), (1, .int 1), (2, .int d), (3, .int sec), (4, .int wh)] := hl
  refine lv_iload_n hx hb dX8_mostCases_0 rfl (lv_at hl 2 rfl) ?_
  refine lv_if_ne (tgt := 10) hx hb dX8_mostCases_1 (by decide) (fun c_1 => ?_) (fun c_1 => ?_)
  · have fc_1 : d.toInt ≠ 0 := zf_ne c_1 rfl (by decide)
    refine lv_iload_n hx hb dX8_mostCases_10 rfl (lv_at hl 1 rfl) ?_
    refine lv_if_ne (tgt := 16) hx hb dX8_mostCases_11 (by decide) (fun c_2 => ?_) (fun c_2 => ?_)
    · refine lv_bipush (v := 12) hx hb dX8_mostCases_16 (by decide) ?_
      refine lv_aload_n hx hb dX8_mostCases_18 rfl (lv_at hl 0 rfl) ?_
      refine lv_iload_n hx hb dX8_mostCases_19 rfl (lv_at hl 1 rfl) ?_
      refine lv_iconst (v := 1) hx hb dX8_mostCases_20 (by decide) ?_
      refine lv_isub hx hb dX8_mostCases_21 ?_
      refine lv_topi (fun y_3 ey_3 => ?_)
      obtain rfl : y_3 = 0 := ey_3.trans (by decide)
      refine lv_iload_n hx hb dX8_mostCases_22 rfl (lv_at hl 2 rfl) ?_
      refine lv_iload_n hx hb dX8_mostCases_23 rfl (lv_at hl 3 rfl) ?_
      refine lv_iload hx hb dX8_mostCases_24 (lv_at hl 4 rfl) ?_
      refine zc_V (As := [.int 0, .int d, .int sec, .int wh]) (rest := [.int 12]) ⟨hx, hb, hml, hown, hts⟩ (c_F_M_mostCases_0 l D cI cJ cZ cP cS po m0 mrf mki mpa mta mla msl mco mhe mso msi msh mce mca mwo mnu mte mwa mke mma mth mtr (npu) (nte) (nat_) (nde) (nto) (nse) (nhu) (nga) (nsd) (nfa) (nba) (npl) (nen) (nnu) (nwr) (nra) (nik) gki gpa gta (d) (sec) (wh) hy0 hy1 hy2 hy3 hy4 hy5 hy6 hy7 hy8 hy9 hy10 hy11 hy12 hy13 hy14 hy15 hy16 hy17 hy18 hy19 hp_gki hp_gpa hp_gta) (cwV 4 hts gX8_mostCases_X8_mostCases rfl rfl rfl ⟨rfl, dh_X8_mostCases⟩ ⟨Nat.le_of_ble_eq_true rfl, Nat.le_of_ble_eq_true rfl⟩) hK hN hZ hP (hP.sub [0, 1, 2, 3] rfl) (va_recv (q := (RX8, TX8, 38)) hK hP (ci := 8) (q0 := 0) rfl rfl) rfl hl.1 rfl (Nat.le_of_ble_eq_true rfl) dX8_mostCases_26 ⟨Nat.le_of_ble_eq_true rfl, Nat.le_of_ble_eq_true rfl⟩ (fun r_4 hr_4 => ?_)
      obtain ⟨g_5, g_6, hsr_4_0⟩ := hr_4
      refine lv_imul hx hb dX8_mostCases_29 ?_
      refine lv_topi (fun x_7 ex_7 => ?_)
      have qx_7 : x_7.toInt = 12 * r_4.toInt := by rw [ex_7]; exact zf_mul (by decide) rfl (by omega) (by omega)
      refine lv_istore (lv' := [(5, .int x_7), (0, .ref m0), (1, .int 1), (2, .int d), (3, .int sec), (4, .int wh)]) hx hb dX8_mostCases_30 hl (by decide) rfl (fun ls hl => ?_)
      refine lv_iconst (v := 0) hx hb dX8_mostCases_32 (by decide) ?_
      refine lv_istore (lv' := [(6, .int 0), (5, .int x_7), (0, .ref m0), (1, .int 1), (2, .int d), (3, .int sec), (4, .int wh)]) hx hb dX8_mostCases_33 hl (by decide) rfl (fun ls hl => ?_)
      obtain ⟨i_35, hi_35⟩ : ∃ i : Int32, i = 0 := ⟨_, rfl⟩
      replace hl : lv_has ls 8 [(6, .int i_35), (5, .int x_7), (0, .ref m0), (1, .int 1), (2, .int d), (3, .int sec), (4, .int wh)] := by rw [hi_35]; exact lv_sub hl [0, 1, 2, 3, 4, 5, 6] rfl
      have h1i_35 : i_35.toInt = 0 := by rw [hi_35]; decide
      obtain ⟨nfu, hni_35⟩ : ∃ nq9 : Nat, npu.toInt ≤ i_35.toInt + (nq9 : Int) := ⟨((npu.toInt : Int) - 0).toNat, by omega⟩
      have hloi_35 : 0 ≤ i_35.toInt := by omega
      obtain ⟨v_8, hv_8⟩ : ∃ g : Int32, g = x_7 := ⟨_, rfl⟩
      replace hl : lv_has ls 8 [(6, .int i_35), (5, .int v_8), (0, .ref m0), (1, .int 1), (2, .int d), (3, .int sec), (4, .int wh)] := by rw [hv_8]; exact hl
      have hbv_8 : 0 ≤ v_8.toInt ∧ v_8.toInt ≤ 12 := by rw [hv_8]; exact ⟨by omega, by omega⟩
      have hvi_35_0 : (v_8 : Int32).toInt = zFo gki gta (if wh.toInt = 0 then 1 else 0) d.toInt sec.toInt (12 * (zM gki gpa gta npu.toInt.toNat nhu.toInt (if wh.toInt = 0 then 1 else 0) 0) d.toInt sec.toInt) (zBy (zM gki gpa gta npu.toInt.toNat nhu.toInt (if wh.toInt = 0 then 1 else 0) 0) gki gpa gta nhu.toInt d.toInt sec.toInt) i_35.toInt.toNat := by
        (try rw [hi_35]); (try rw [hv_8]); (rw [(show ((0 : Int32).toInt.toNat) = 0 from by decide)]; have z := hsr_4_0; show _ = 12 * (zM gki gpa gta npu.toInt.toNat nhu.toInt (if wh.toInt = 0 then 1 else 0) 0) d.toInt sec.toInt; rw [← z]; omega)
      have hvi_35_1 : i_35.toInt ≤ npu.toInt := by
        (try rw [hi_35]); (try rw [hv_8]); (have k0 : (0 : Int32).toInt = 0 := (by decide); omega)
      clear h1i_35 hi_35 hv_8
      revert hni_35
      revert hloi_35
      revert hvi_35_1
      revert hvi_35_0
      revert hbv_8
      revert hl
      revert ls
      revert v_8
      revert i_35
      induction nfu with
      | zero =>
        intro i_35 v_8 ls hl hbv_8 hvi_35_0 hvi_35_1 hloi_35 hni_35
        have hzi_35 : npu.toInt ≤ i_35.toInt := by omega
        refine lv_iload hx hb dX8_mostCases_35 (lv_at hl 0 rfl) ?_
        refine lv_aload_n hx hb dX8_mostCases_37 rfl (lv_at hl 2 rfl) ?_
        refine va_get (D := D) (ci := 8) (v := .int npu) (C := RX8) (T := TX8) (N := 38) hx hb hts hi_X8_mostCases_8 hown hK hP 0 rfl rfl 0 (by decide) (hts (.fieldLink RX8 90 "TheLiningsInItModel" "pulls" "I") (List.mem_of_getElem? (i := 1) rfl)) (fun _ h9 => h9) rfl dX8_mostCases_38 ?_
        refine lv_icmp_ge (tgt := 109) hx hb dX8_mostCases_41 (by decide) (fun c_9 => ?_) (fun c_9 => ?_)
        · have fc_9 : npu.toInt ≤ i_35.toInt := zf_le c_9 rfl rfl
          refine lv_iload hx hb dX8_mostCases_109 (lv_at hl 1 rfl) ?_
          exact W.iret (v := v_8) hx hb hr (fun t ht hW => ⟨v_8, rfl, ⟨by omega, by omega, (show (v_8 : Int32).toInt = (zM gki gpa gta npu.toInt.toNat nhu.toInt (if wh.toInt = 0 then 1 else 0) 1) d.toInt sec.toInt from by (have h9 : i_35.toInt.toNat = npu.toInt.toNat := (by omega); have z := hvi_35_0; rw [h9, zM_ref (by omega)] at z; exact z))⟩, ht⟩) (fun q hq => by cases hq) dX8_mostCases_111
        · exfalso; have fc_9 : i_35.toInt < npu.toInt := zf_nle c_9 rfl rfl; omega
      | succ nfu ih =>
        intro i_35 v_8 ls hl hbv_8 hvi_35_0 hvi_35_1 hloi_35 hni_35
        refine lv_iload hx hb dX8_mostCases_35 (lv_at hl 0 rfl) ?_
        refine lv_aload_n hx hb dX8_mostCases_37 rfl (lv_at hl 2 rfl) ?_
        refine va_get (D := D) (ci := 8) (v := .int npu) (C := RX8) (T := TX8) (N := 38) hx hb hts hi_X8_mostCases_8 hown hK hP 0 rfl rfl 0 (by decide) (hts (.fieldLink RX8 90 "TheLiningsInItModel" "pulls" "I") (List.mem_of_getElem? (i := 1) rfl)) (fun _ h9 => h9) rfl dX8_mostCases_38 ?_
        refine lv_icmp_ge (tgt := 109) hx hb dX8_mostCases_41 (by decide) (fun c_10 => ?_) (fun c_10 => ?_)
        · have fc_10 : npu.toInt ≤ i_35.toInt := zf_le c_10 rfl rfl
          refine lv_iload hx hb dX8_mostCases_109 (lv_at hl 1 rfl) ?_
          exact W.iret (v := v_8) hx hb hr (fun t ht hW => ⟨v_8, rfl, ⟨by omega, by omega, (show (v_8 : Int32).toInt = (zM gki gpa gta npu.toInt.toNat nhu.toInt (if wh.toInt = 0 then 1 else 0) 1) d.toInt sec.toInt from by (have h9 : i_35.toInt.toNat = npu.toInt.toNat := (by omega); have z := hvi_35_0; rw [h9, zM_ref (by omega)] at z; exact z))⟩, ht⟩) (fun q hq => by cases hq) dX8_mostCases_111
        · have fc_10 : i_35.toInt < npu.toInt := zf_nle c_10 rfl rfl
          refine lv_aload_n hx hb dX8_mostCases_44 rfl (lv_at hl 2 rfl) ?_
          refine lv_iload hx hb dX8_mostCases_45 (lv_at hl 0 rfl) ?_
          refine lv_iload_n hx hb dX8_mostCases_47 rfl (lv_at hl 4 rfl) ?_
          refine lv_iload_n hx hb dX8_mostCases_48 rfl (lv_at hl 5 rfl) ?_
          refine zc_V (As := [.int i_35, .int d, .int sec]) (rest := []) ⟨hx, hb, hml, hown, hts⟩ (c_F_M_mayBe l D cI cJ cZ cP cS po m0 mrf mki mpa mta mla msl mco mhe mso msi msh mce mca mwo mnu mte mwa mke mma mth mtr (npu) (nte) (nat_) (nde) (nto) (nse) (nhu) (nga) (nsd) (nfa) (nba) (npl) (nen) (nnu) (nwr) (nra) (nik) gta (i_35) (d) (sec) hy0 hy1 hy2 hy3 hy4 hy5 hy6 hy7 hy8 hy9 hy10 hy11 hy12 hy13 (by omega) (by omega) hp_gta) (cwV 3 hts gX8_mostCases_X8_mayBe rfl rfl rfl ⟨rfl, dh_X8_mayBe⟩ ⟨Nat.le_of_ble_eq_true rfl, Nat.le_of_ble_eq_true rfl⟩) hK hN hZ hP (hP.sub [0, 3] rfl) (va_recv (q := (RX8, TX8, 38)) hK hP (ci := 8) (q0 := 0) rfl rfl) rfl hl.1 rfl (Nat.le_of_ble_eq_true rfl) dX8_mostCases_49 ⟨Nat.le_of_ble_eq_true rfl, Nat.le_of_ble_eq_true rfl⟩ (fun r_11 hr_11 => ?_)
          obtain ⟨g_12, g_13, hsr_11_0⟩ := hr_11
          refine lv_if_eq (tgt := 103) hx hb dX8_mostCases_52 (by decide) (fun c_14 => ?_) (fun c_14 => ?_)
          · have fc_14 : r_11.toInt = 0 := zf_eq c_14 rfl (by decide)
            obtain ⟨x_15, ex_15⟩ : ∃ y : Int32, y = i_35 + 1 := ⟨_, rfl⟩
            have qx_15 : x_15.toInt = i_35.toInt + 1 := dw_inc ex_15 fc_10
            refine lv_iinc (v := x_15) (lv' := [(6, .int x_15), (5, .int v_8), (0, .ref m0), (1, .int 1), (2, .int d), (3, .int sec), (4, .int wh)]) hx hb dX8_mostCases_103 hl (k := 0) rfl ex_15.symm (by decide) rfl (fun ls hl => ?_)
            refine lv_goto (tgt := 35) hx hb dX8_mostCases_106 (by decide) ?_
            exact ih x_15 v_8 _ (lv_sub hl [0, 1, 2, 3, 4, 5, 6] rfl) hbv_8 (show (v_8 : Int32).toInt = zFo gki gta (if wh.toInt = 0 then 1 else 0) d.toInt sec.toInt (12 * (zM gki gpa gta npu.toInt.toNat nhu.toInt (if wh.toInt = 0 then 1 else 0) 0) d.toInt sec.toInt) (zBy (zM gki gpa gta npu.toInt.toNat nhu.toInt (if wh.toInt = 0 then 1 else 0) 0) gki gpa gta nhu.toInt d.toInt sec.toInt) x_15.toInt.toNat from by (have hx : x_15.toInt.toNat = i_35.toInt.toNat + 1 := (by omega); have y9 : i_35.toNatClampNeg = i_35.toInt.toNat := rfl; have hm := hsr_11_0; rw [y9] at hm; have no : ¬ zOk gki gta (if wh.toInt = 0 then 1 else 0) d.toInt sec.toInt i_35.toInt.toNat := (fun z => by first | (have z1 := hm.mpr ⟨z.1, z.2.1⟩; omega) | (have z3 := z.2.2; rw [if_neg (by omega)] at z3; omega)); rw [hx, zFo_n no]; exact hvi_35_0)) (show x_15.toInt ≤ npu.toInt from by omega) (dw_lo hloi_35 qx_15) (dw_hn hni_35 qx_15)
          · have fc_14 : r_11.toInt ≠ 0 := zf_ne c_14 rfl (by decide)
            refine lv_iload hx hb dX8_mostCases_55 (lv_at hl 6 rfl) ?_
            refine lv_if_eq (tgt := 74) hx hb dX8_mostCases_57 (by decide) (fun c_16 => ?_) (fun c_16 => ?_)
            · have fc_16 : wh.toInt = 0 := zf_eq c_16 rfl (by decide)
              have htl9 : (gta i_35.toNatClampNeg).toInt ≤ sec.toInt := (hsr_11_0.mp (by omega)).2
              refine lv_aload_n hx hb dX8_mostCases_74 rfl (lv_at hl 2 rfl) ?_
              refine lv_iload hx hb dX8_mostCases_75 (lv_at hl 0 rfl) ?_
              refine lv_iload_n hx hb dX8_mostCases_77 rfl (lv_at hl 3 rfl) ?_
              refine lv_iload_n hx hb dX8_mostCases_78 rfl (lv_at hl 4 rfl) ?_
              refine lv_iload_n hx hb dX8_mostCases_79 rfl (lv_at hl 5 rfl) ?_
              refine lv_iload hx hb dX8_mostCases_80 (lv_at hl 6 rfl) ?_
              refine zc_V (As := [.int i_35, .int 1, .int d, .int sec, .int wh]) (rest := []) ⟨hx, hb, hml, hown, hts⟩ (c_F_M_casesBy_1 l D cI cJ cZ cP cS po m0 mrf mki mpa mta mla msl mco mhe mso msi msh mce mca mwo mnu mte mwa mke mma mth mtr (npu) (nte) (nat_) (nde) (nto) (nse) (nhu) (nga) (nsd) (nfa) (nba) (npl) (nen) (nnu) (nwr) (nra) (nik) gki gpa gta (i_35) (d) (sec) (wh) hy0 hy1 hy2 hy3 hy4 hy5 hy6 hy7 hy8 hy9 hy10 hy11 hy12 hy13 (by omega) (by omega) hy14 hy15 hy16 hy17 hy18 hy19 (by first | assumption | omega) hp_gki hp_gpa hp_gta) (cwV 5 hts gX8_mostCases_X8_casesBy rfl rfl rfl ⟨rfl, dh_X8_casesBy⟩ ⟨Nat.le_of_ble_eq_true rfl, Nat.le_of_ble_eq_true rfl⟩) hK hN hZ hP (hP.sub [0, 1, 2, 3] rfl) (va_recv (q := (RX8, TX8, 38)) hK hP (ci := 8) (q0 := 0) rfl rfl) rfl hl.1 rfl (Nat.le_of_ble_eq_true rfl) dX8_mostCases_82 ⟨Nat.le_of_ble_eq_true rfl, Nat.le_of_ble_eq_true rfl⟩ (fun r_17 hr_17 => ?_)
              obtain ⟨g_18, g_19, hsr_17_0⟩ := hr_17
              refine lv_istore (lv' := [(7, .int r_17), (6, .int i_35), (5, .int v_8), (0, .ref m0), (1, .int 1), (2, .int d), (3, .int sec), (4, .int wh)]) hx hb dX8_mostCases_85 hl (by decide) rfl (fun ls hl => ?_)
              refine lv_iload hx hb dX8_mostCases_87 (lv_at hl 0 rfl) ?_
              refine lv_iload hx hb dX8_mostCases_89 (lv_at hl 2 rfl) ?_
              refine lv_icmp_le (tgt := 99) hx hb dX8_mostCases_91 (by decide) (fun c_20 => ?_) (fun c_20 => ?_)
              · have fc_20 : r_17.toInt ≤ v_8.toInt := zf_le c_20 rfl rfl
                refine lv_iload hx hb dX8_mostCases_99 (lv_at hl 2 rfl) ?_
                refine lv_istore (lv' := [(5, .int v_8), (7, .int r_17), (6, .int i_35), (0, .ref m0), (1, .int 1), (2, .int d), (3, .int sec), (4, .int wh)]) hx hb dX8_mostCases_101 hl (by decide) rfl (fun ls hl => ?_)
                obtain ⟨x_21, ex_21⟩ : ∃ y : Int32, y = i_35 + 1 := ⟨_, rfl⟩
                have qx_21 : x_21.toInt = i_35.toInt + 1 := dw_inc ex_21 fc_10
                refine lv_iinc (v := x_21) (lv' := [(6, .int x_21), (5, .int v_8), (7, .int r_17), (0, .ref m0), (1, .int 1), (2, .int d), (3, .int sec), (4, .int wh)]) hx hb dX8_mostCases_103 hl (k := 2) rfl ex_21.symm (by decide) rfl (fun ls hl => ?_)
                refine lv_goto (tgt := 35) hx hb dX8_mostCases_106 (by decide) ?_
                exact ih x_21 v_8 _ (lv_sub hl [0, 1, 3, 4, 5, 6, 7] rfl) hbv_8 (show (v_8 : Int32).toInt = zFo gki gta (if wh.toInt = 0 then 1 else 0) d.toInt sec.toInt (12 * (zM gki gpa gta npu.toInt.toNat nhu.toInt (if wh.toInt = 0 then 1 else 0) 0) d.toInt sec.toInt) (zBy (zM gki gpa gta npu.toInt.toNat nhu.toInt (if wh.toInt = 0 then 1 else 0) 0) gki gpa gta nhu.toInt d.toInt sec.toInt) x_21.toInt.toNat from by (have hx : x_21.toInt.toNat = i_35.toInt.toNat + 1 := (by omega); have y9 : i_35.toNatClampNeg = i_35.toInt.toNat := rfl; have hm := hsr_11_0; rw [y9] at hm; have ok : zOk gki gta (if wh.toInt = 0 then 1 else 0) d.toInt sec.toInt i_35.toInt.toNat := ⟨(hm.mp (by omega)).1, (hm.mp (by omega)).2, (by first | exact Or.inl (by rw [if_pos (by omega)]; decide) | exact Or.inr (by omega))⟩; rw [hx, zFo_y ok, ← hvi_35_0]; have zr := hsr_17_0; rw [y9] at zr; have zr2 : r_17.toInt = (zBy (zM gki gpa gta npu.toInt.toNat nhu.toInt (if wh.toInt = 0 then 1 else 0) 0) gki gpa gta nhu.toInt d.toInt sec.toInt) i_35.toInt.toNat := zr; omega)) (show x_21.toInt ≤ npu.toInt from by omega) (dw_lo hloi_35 qx_21) (dw_hn hni_35 qx_21)
              · have fc_20 : v_8.toInt < r_17.toInt := zf_nle c_20 rfl rfl
                refine lv_iload hx hb dX8_mostCases_94 (lv_at hl 0 rfl) ?_
                refine lv_goto (tgt := 101) hx hb dX8_mostCases_96 (by decide) ?_
                refine lv_istore (lv' := [(5, .int r_17), (7, .int r_17), (6, .int i_35), (0, .ref m0), (1, .int 1), (2, .int d), (3, .int sec), (4, .int wh)]) hx hb dX8_mostCases_101 hl (by decide) rfl (fun ls hl => ?_)
                obtain ⟨x_22, ex_22⟩ : ∃ y : Int32, y = i_35 + 1 := ⟨_, rfl⟩
                have qx_22 : x_22.toInt = i_35.toInt + 1 := dw_inc ex_22 fc_10
                refine lv_iinc (v := x_22) (lv' := [(6, .int x_22), (5, .int r_17), (7, .int r_17), (0, .ref m0), (1, .int 1), (2, .int d), (3, .int sec), (4, .int wh)]) hx hb dX8_mostCases_103 hl (k := 2) rfl ex_22.symm (by decide) rfl (fun ls hl => ?_)
                refine lv_goto (tgt := 35) hx hb dX8_mostCases_106 (by decide) ?_
                exact ih x_22 r_17 _ (lv_sub hl [0, 1, 3, 4, 5, 6, 7] rfl) ⟨by omega, by omega⟩ (show (r_17 : Int32).toInt = zFo gki gta (if wh.toInt = 0 then 1 else 0) d.toInt sec.toInt (12 * (zM gki gpa gta npu.toInt.toNat nhu.toInt (if wh.toInt = 0 then 1 else 0) 0) d.toInt sec.toInt) (zBy (zM gki gpa gta npu.toInt.toNat nhu.toInt (if wh.toInt = 0 then 1 else 0) 0) gki gpa gta nhu.toInt d.toInt sec.toInt) x_22.toInt.toNat from by (have hx : x_22.toInt.toNat = i_35.toInt.toNat + 1 := (by omega); have y9 : i_35.toNatClampNeg = i_35.toInt.toNat := rfl; have hm := hsr_11_0; rw [y9] at hm; have ok : zOk gki gta (if wh.toInt = 0 then 1 else 0) d.toInt sec.toInt i_35.toInt.toNat := ⟨(hm.mp (by omega)).1, (hm.mp (by omega)).2, (by first | exact Or.inl (by rw [if_pos (by omega)]; decide) | exact Or.inr (by omega))⟩; rw [hx, zFo_y ok, ← hvi_35_0]; have zr := hsr_17_0; rw [y9] at zr; have zr2 : r_17.toInt = (zBy (zM gki gpa gta npu.toInt.toNat nhu.toInt (if wh.toInt = 0 then 1 else 0) 0) gki gpa gta nhu.toInt d.toInt sec.toInt) i_35.toInt.toNat := zr; omega)) (show x_22.toInt ≤ npu.toInt from by omega) (dw_lo hloi_35 qx_22) (dw_hn hni_35 qx_22)
            · have fc_16 : wh.toInt ≠ 0 := zf_ne c_16 rfl (by decide)
              refine lv_aload_n hx hb dX8_mostCases_60 rfl (lv_at hl 2 rfl) ?_
              refine va_get (D := D) (ci := 8) (v := .ref mki) (C := RX8) (T := TX8) (N := 38) hx hb hts hi_X8_mostCases_8 hown hK hP 0 rfl rfl 11 (by decide) (hts (.fieldLink RX8 29 "TheLiningsInItModel" "kind" "[I") (List.mem_of_getElem? (i := 2) rfl)) (fun _ h9 => h9) rfl dX8_mostCases_61 ?_
              refine lv_iload hx hb dX8_mostCases_64 (lv_at hl 0 rfl) ?_
              refine va_iald hx hb hK hP 1 0 rfl rfl (zf_in (by omega) (by omega)) dX8_mostCases_66 ?_
              refine lv_topi (fun x_23 ex_23 => ?_)
              have bx_23 : 0 ≤ x_23.toInt ∧ x_23.toInt ≤ 6 := by rw [ex_23]; exact hp_gki _
              refine lv_iconst (v := 5) hx hb dX8_mostCases_67 (by decide) ?_
              refine lv_icmp_ne (tgt := 74) hx hb dX8_mostCases_68 (by decide) (fun c_24 => ?_) (fun c_24 => ?_)
              · have fc_24 : x_23.toInt ≠ 5 := zf_ne c_24 rfl (by decide)
                have htl9 : (gta i_35.toNatClampNeg).toInt ≤ sec.toInt := (hsr_11_0.mp (by omega)).2
                refine lv_aload_n hx hb dX8_mostCases_74 rfl (lv_at hl 2 rfl) ?_
                refine lv_iload hx hb dX8_mostCases_75 (lv_at hl 0 rfl) ?_
                refine lv_iload_n hx hb dX8_mostCases_77 rfl (lv_at hl 3 rfl) ?_
                refine lv_iload_n hx hb dX8_mostCases_78 rfl (lv_at hl 4 rfl) ?_
                refine lv_iload_n hx hb dX8_mostCases_79 rfl (lv_at hl 5 rfl) ?_
                refine lv_iload hx hb dX8_mostCases_80 (lv_at hl 6 rfl) ?_
                refine zc_V (As := [.int i_35, .int 1, .int d, .int sec, .int wh]) (rest := []) ⟨hx, hb, hml, hown, hts⟩ (c_F_M_casesBy_1 l D cI cJ cZ cP cS po m0 mrf mki mpa mta mla msl mco mhe mso msi msh mce mca mwo mnu mte mwa mke mma mth mtr (npu) (nte) (nat_) (nde) (nto) (nse) (nhu) (nga) (nsd) (nfa) (nba) (npl) (nen) (nnu) (nwr) (nra) (nik) gki gpa gta (i_35) (d) (sec) (wh) hy0 hy1 hy2 hy3 hy4 hy5 hy6 hy7 hy8 hy9 hy10 hy11 hy12 hy13 (by omega) (by omega) hy14 hy15 hy16 hy17 hy18 hy19 (by first | assumption | omega) hp_gki hp_gpa hp_gta) (cwV 5 hts gX8_mostCases_X8_casesBy rfl rfl rfl ⟨rfl, dh_X8_casesBy⟩ ⟨Nat.le_of_ble_eq_true rfl, Nat.le_of_ble_eq_true rfl⟩) hK hN hZ hP (hP.sub [0, 1, 2, 3] rfl) (va_recv (q := (RX8, TX8, 38)) hK hP (ci := 8) (q0 := 0) rfl rfl) rfl hl.1 rfl (Nat.le_of_ble_eq_true rfl) dX8_mostCases_82 ⟨Nat.le_of_ble_eq_true rfl, Nat.le_of_ble_eq_true rfl⟩ (fun r_25 hr_25 => ?_)
                obtain ⟨g_26, g_27, hsr_25_0⟩ := hr_25
                refine lv_istore (lv' := [(7, .int r_25), (6, .int i_35), (5, .int v_8), (0, .ref m0), (1, .int 1), (2, .int d), (3, .int sec), (4, .int wh)]) hx hb dX8_mostCases_85 hl (by decide) rfl (fun ls hl => ?_)
                refine lv_iload hx hb dX8_mostCases_87 (lv_at hl 0 rfl) ?_
                refine lv_iload hx hb dX8_mostCases_89 (lv_at hl 2 rfl) ?_
                refine lv_icmp_le (tgt := 99) hx hb dX8_mostCases_91 (by decide) (fun c_28 => ?_) (fun c_28 => ?_)
                · have fc_28 : r_25.toInt ≤ v_8.toInt := zf_le c_28 rfl rfl
                  refine lv_iload hx hb dX8_mostCases_99 (lv_at hl 2 rfl) ?_
                  refine lv_istore (lv' := [(5, .int v_8), (7, .int r_25), (6, .int i_35), (0, .ref m0), (1, .int 1), (2, .int d), (3, .int sec), (4, .int wh)]) hx hb dX8_mostCases_101 hl (by decide) rfl (fun ls hl => ?_)
                  obtain ⟨x_29, ex_29⟩ : ∃ y : Int32, y = i_35 + 1 := ⟨_, rfl⟩
                  have qx_29 : x_29.toInt = i_35.toInt + 1 := dw_inc ex_29 fc_10
                  refine lv_iinc (v := x_29) (lv' := [(6, .int x_29), (5, .int v_8), (7, .int r_25), (0, .ref m0), (1, .int 1), (2, .int d), (3, .int sec), (4, .int wh)]) hx hb dX8_mostCases_103 hl (k := 2) rfl ex_29.symm (by decide) rfl (fun ls hl => ?_)
                  refine lv_goto (tgt := 35) hx hb dX8_mostCases_106 (by decide) ?_
                  exact ih x_29 v_8 _ (lv_sub hl [0, 1, 3, 4, 5, 6, 7] rfl) hbv_8 (show (v_8 : Int32).toInt = zFo gki gta (if wh.toInt = 0 then 1 else 0) d.toInt sec.toInt (12 * (zM gki gpa gta npu.toInt.toNat nhu.toInt (if wh.toInt = 0 then 1 else 0) 0) d.toInt sec.toInt) (zBy (zM gki gpa gta npu.toInt.toNat nhu.toInt (if wh.toInt = 0 then 1 else 0) 0) gki gpa gta nhu.toInt d.toInt sec.toInt) x_29.toInt.toNat from by (have hx : x_29.toInt.toNat = i_35.toInt.toNat + 1 := (by omega); have y9 : i_35.toNatClampNeg = i_35.toInt.toNat := rfl; have hm := hsr_11_0; rw [y9] at hm; have nk : (gki i_35.toInt.toNat).toInt = x_23.toInt := (by rw [ex_23]; rfl); have ok : zOk gki gta (if wh.toInt = 0 then 1 else 0) d.toInt sec.toInt i_35.toInt.toNat := ⟨(hm.mp (by omega)).1, (hm.mp (by omega)).2, (by first | exact Or.inl (by rw [if_pos (by omega)]; decide) | exact Or.inr (by omega))⟩; rw [hx, zFo_y ok, ← hvi_35_0]; have zr := hsr_25_0; rw [y9] at zr; have zr2 : r_25.toInt = (zBy (zM gki gpa gta npu.toInt.toNat nhu.toInt (if wh.toInt = 0 then 1 else 0) 0) gki gpa gta nhu.toInt d.toInt sec.toInt) i_35.toInt.toNat := zr; omega)) (show x_29.toInt ≤ npu.toInt from by omega) (dw_lo hloi_35 qx_29) (dw_hn hni_35 qx_29)
                · have fc_28 : v_8.toInt < r_25.toInt := zf_nle c_28 rfl rfl
                  refine lv_iload hx hb dX8_mostCases_94 (lv_at hl 0 rfl) ?_
                  refine lv_goto (tgt := 101) hx hb dX8_mostCases_96 (by decide) ?_
                  refine lv_istore (lv' := [(5, .int r_25), (7, .int r_25), (6, .int i_35), (0, .ref m0), (1, .int 1), (2, .int d), (3, .int sec), (4, .int wh)]) hx hb dX8_mostCases_101 hl (by decide) rfl (fun ls hl => ?_)
                  obtain ⟨x_30, ex_30⟩ : ∃ y : Int32, y = i_35 + 1 := ⟨_, rfl⟩
                  have qx_30 : x_30.toInt = i_35.toInt + 1 := dw_inc ex_30 fc_10
                  refine lv_iinc (v := x_30) (lv' := [(6, .int x_30), (5, .int r_25), (7, .int r_25), (0, .ref m0), (1, .int 1), (2, .int d), (3, .int sec), (4, .int wh)]) hx hb dX8_mostCases_103 hl (k := 2) rfl ex_30.symm (by decide) rfl (fun ls hl => ?_)
                  refine lv_goto (tgt := 35) hx hb dX8_mostCases_106 (by decide) ?_
                  exact ih x_30 r_25 _ (lv_sub hl [0, 1, 3, 4, 5, 6, 7] rfl) ⟨by omega, by omega⟩ (show (r_25 : Int32).toInt = zFo gki gta (if wh.toInt = 0 then 1 else 0) d.toInt sec.toInt (12 * (zM gki gpa gta npu.toInt.toNat nhu.toInt (if wh.toInt = 0 then 1 else 0) 0) d.toInt sec.toInt) (zBy (zM gki gpa gta npu.toInt.toNat nhu.toInt (if wh.toInt = 0 then 1 else 0) 0) gki gpa gta nhu.toInt d.toInt sec.toInt) x_30.toInt.toNat from by (have hx : x_30.toInt.toNat = i_35.toInt.toNat + 1 := (by omega); have y9 : i_35.toNatClampNeg = i_35.toInt.toNat := rfl; have hm := hsr_11_0; rw [y9] at hm; have nk : (gki i_35.toInt.toNat).toInt = x_23.toInt := (by rw [ex_23]; rfl); have ok : zOk gki gta (if wh.toInt = 0 then 1 else 0) d.toInt sec.toInt i_35.toInt.toNat := ⟨(hm.mp (by omega)).1, (hm.mp (by omega)).2, (by first | exact Or.inl (by rw [if_pos (by omega)]; decide) | exact Or.inr (by omega))⟩; rw [hx, zFo_y ok, ← hvi_35_0]; have zr := hsr_25_0; rw [y9] at zr; have zr2 : r_25.toInt = (zBy (zM gki gpa gta npu.toInt.toNat nhu.toInt (if wh.toInt = 0 then 1 else 0) 0) gki gpa gta nhu.toInt d.toInt sec.toInt) i_35.toInt.toNat := zr; omega)) (show x_30.toInt ≤ npu.toInt from by omega) (dw_lo hloi_35 qx_30) (dw_hn hni_35 qx_30)
              · have fc_24 : x_23.toInt = 5 := zf_eq c_24 rfl (by decide)
                refine lv_goto (tgt := 103) hx hb dX8_mostCases_71 (by decide) ?_
                obtain ⟨x_31, ex_31⟩ : ∃ y : Int32, y = i_35 + 1 := ⟨_, rfl⟩
                have qx_31 : x_31.toInt = i_35.toInt + 1 := dw_inc ex_31 fc_10
                refine lv_iinc (v := x_31) (lv' := [(6, .int x_31), (5, .int v_8), (0, .ref m0), (1, .int 1), (2, .int d), (3, .int sec), (4, .int wh)]) hx hb dX8_mostCases_103 hl (k := 0) rfl ex_31.symm (by decide) rfl (fun ls hl => ?_)
                refine lv_goto (tgt := 35) hx hb dX8_mostCases_106 (by decide) ?_
                exact ih x_31 v_8 _ (lv_sub hl [0, 1, 2, 3, 4, 5, 6] rfl) hbv_8 (show (v_8 : Int32).toInt = zFo gki gta (if wh.toInt = 0 then 1 else 0) d.toInt sec.toInt (12 * (zM gki gpa gta npu.toInt.toNat nhu.toInt (if wh.toInt = 0 then 1 else 0) 0) d.toInt sec.toInt) (zBy (zM gki gpa gta npu.toInt.toNat nhu.toInt (if wh.toInt = 0 then 1 else 0) 0) gki gpa gta nhu.toInt d.toInt sec.toInt) x_31.toInt.toNat from by (have hx : x_31.toInt.toNat = i_35.toInt.toNat + 1 := (by omega); have y9 : i_35.toNatClampNeg = i_35.toInt.toNat := rfl; have hm := hsr_11_0; rw [y9] at hm; have nk : (gki i_35.toInt.toNat).toInt = x_23.toInt := (by rw [ex_23]; rfl); have no : ¬ zOk gki gta (if wh.toInt = 0 then 1 else 0) d.toInt sec.toInt i_35.toInt.toNat := (fun z => by first | (have z1 := hm.mpr ⟨z.1, z.2.1⟩; omega) | (have z3 := z.2.2; rw [if_neg (by omega)] at z3; omega)); rw [hx, zFo_n no]; exact hvi_35_0)) (show x_31.toInt ≤ npu.toInt from by omega) (dw_lo hloi_35 qx_31) (dw_hn hni_35 qx_31)
    · exact absurd c_2 (by decide)
  · have fc_1 : d.toInt = 0 := zf_eq c_1 rfl (by decide)
    refine lv_aload_n hx hb dX8_mostCases_4 rfl (lv_at hl 0 rfl) ?_
    refine lv_iload_n hx hb dX8_mostCases_5 rfl (lv_at hl 1 rfl) ?_
    refine zc_V (As := [.int 1]) (rest := []) ⟨hx, hb, hml, hown, hts⟩ (c_M_power_1 l D cI cJ cZ cP cS po m0 mrf mki mpa mta mla msl mco mhe mso msi msh mce mca mwo mnu mte mwa mke mma mth mtr (npu) (nte) (nat_) (nde) (nto) (nse) (nhu) (nga) (nsd) (nfa) (nba) (npl) (nen) (nnu) (nwr) (nra) (nik) hy0 hy1 hy2 hy3 hy4 hy5 hy6 hy7 hy8 hy9 hy10 hy11 hy12 hy13) (cwV 1 hts gX8_mostCases_X8_power rfl rfl rfl ⟨rfl, dh_X8_power⟩ ⟨Nat.le_of_ble_eq_true rfl, Nat.le_of_ble_eq_true rfl⟩) hK hN hZ hP (hP.sub [0] rfl) (va_recv (q := (RX8, TX8, 38)) hK hP (ci := 8) (q0 := 0) rfl rfl) rfl hl.1 rfl (Nat.le_of_ble_eq_true rfl) dX8_mostCases_6 ⟨Nat.le_of_ble_eq_true rfl, Nat.le_of_ble_eq_true rfl⟩ (fun r_32 hr_32 => ?_)
    obtain rfl := hr_32
    exact W.iret (v := 12) hx hb hr (fun t ht hW => ⟨12, rfl, ⟨by decide, by decide, (show (12 : Int32).toInt = (zM gki gpa gta npu.toInt.toNat nhu.toInt (if wh.toInt = 0 then 1 else 0) 1) d.toInt sec.toInt from by (have k9 : (12 : Int32).toInt = 12 := (by decide); rw [zM_s, if_pos (by omega)]; rw [show zPw 1 = 12 from by decide]; omega))⟩, ht⟩) (fun q hq => by cases hq) dX8_mostCases_9
set_option maxHeartbeats 4000000 in
set_option maxRecDepth 100000 in
theorem c_F_M_casesBy_2 (l : Launch) (D : va_G) (cI cJ cZ cP cS : ClassId) (po : zPool) (m0 mrf mki mpa mta mla msl mco mhe mso msi msh mce mca mwo mnu mte mwa mke mma mth mtr : Nat) (npu nte nat_ nde nto nse nhu nga nsd nfa nba npl nen nnu nwr nra nik : Int32) (gki gpa gta : Nat → Int32) (p_ d sec wh : Int32) (hy0 : 0 ≤ npu.toInt) (hy1 : npu.toInt ≤ 8) (hy2 : 4 ≤ nte.toInt) (hy3 : nte.toInt ≤ 40) (hy4 : 0 ≤ nat_.toInt) (hy5 : nat_.toInt ≤ 40) (hy6 : 0 ≤ nde.toInt) (hy7 : nde.toInt ≤ 24) (hy8 : 0 ≤ nhu.toInt) (hy9 : nhu.toInt ≤ 9) (hy10 : 0 ≤ nra.toInt) (hy11 : nra.toInt ≤ 2000) (hy12 : 0 ≤ nik.toInt) (hy13 : nik.toInt ≤ 1) (hy14 : 0 ≤ p_.toInt) (hy15 : p_.toInt ≤ 7) (hy16 : 0 ≤ d.toInt) (hy17 : d.toInt ≤ 24) (hy18 : 0 ≤ sec.toInt) (hy19 : sec.toInt ≤ 300) (hy20 : 0 ≤ wh.toInt) (hy21 : wh.toInt ≤ 1) (htl : (gta p_.toNatClampNeg).toInt ≤ sec.toInt) (hp_gki : zRg gki (0) 6) (hp_gpa : zRg gpa (0) 9) (hp_gta : zRg gta (0) 60) : Met l yX8_casesBy wsX8_casesBy ({ frames := 4, cells := 0, slots := 0, locals := 102 }) (va_Pc [.ref m0, .int p_, .int 2, .int d, .int sec, .int wh] (zR D (zKT cI cJ cZ cP cS) po [(zMO m0 npu nte nat_ nde nto nse nhu nga nsd nfa mrf mki mpa mta mla msl mco mhe mso msi msh mce mca mwo mnu mte nba npl nen nnu nwr mwa mke mma mth mtr nra nik), (mki, .inl (cI, 8, .inl gki)), (mpa, .inl (cI, 8, .inl gpa)), (mta, .inl (cI, 8, .inl gta))])) (vp_Si (fun r => 0 ≤ r.toInt ∧ r.toInt ≤ 144 ∧ (r.toInt = zBy1 (zM gki gpa gta npu.toInt.toNat nhu.toInt (if wh.toInt = 0 then 1 else 0) 1) (gki p_.toNatClampNeg).toInt (gpa p_.toNatClampNeg).toInt (gta p_.toNatClampNeg).toInt nhu.toInt d.toInt sec.toInt))) 0 0 (fun _ => False) := by
  refine Met.ofW (cc := cX8_casesBy) (maxL := 8) (ret := (some .int)) (by decide) rfl ?_
  intro p e s m args below meth c s₁ B hml hv
  obtain ⟨rfl, hP, hK, hN, hZ⟩ := hv
  have hx := B.exec
  have hb := B.bytes
  have hr := B.returns
  have hts := atoms_spec (ws := wsX8_casesBy) B.pre
  have hown : s.vm.findClass RX8 = some m.cls := findClass_of_methodNamed B.named
  have hlocks := B.notSynchronized
  have hl := lv_entry ([.ref m0, .int p_, .int 2, .int d, .int sec, .int wh]) (n := 8) (Nat.le_of_ble_eq_true rfl)
  rw [lg_entry_eq]
  generalize (lg_sl ([.ref m0, .int p_, .int 2, .int d, .int sec, .int wh]) ++ List.replicate (8 - (lg_sl ([.ref m0, .int p_, .int 2, .int d, .int sec, .int wh])).length) Slot.unset).toArray = ls at hl ⊢
  replace hl : lv_has ls 8 [(0, .ref m0), (1, .int p_), (2, .int 2), (3, .int d), (4, .int sec), (5, .int wh)] := hl
  refine lv_aload_n hx hb dX8_casesBy_0 rfl (lv_at hl 0 rfl) ?_
  refine lv_iload_n hx hb dX8_casesBy_1 rfl (lv_at hl 1 rfl) ?_
  refine lv_iload_n hx hb dX8_casesBy_2 rfl (lv_at hl 3 rfl) ?_
  refine zc_V (As := [.int p_, .int d]) (rest := []) ⟨hx, hb, hml, hown, hts⟩ (c_F_M_ways l D cI cJ cZ cP cS po m0 mrf mki mpa mta mla msl mco mhe mso msi msh mce mca mwo mnu mte mwa mke mma mth mtr (npu) (nte) (nat_) (nde) (nto) (nse) (nhu) (nga) (nsd) (nfa) (nba) (npl) (nen) (nnu) (nwr) (nra) (nik) gki gpa (p_) (d) hy0 hy1 hy2 hy3 hy4 hy5 hy6 hy7 hy8 hy9 hy10 hy11 hy12 hy13 hy14 hy15 hy16 hy17 hp_gki hp_gpa) (cwV 2 hts gX8_casesBy_X8_ways rfl rfl rfl ⟨rfl, dh_X8_ways⟩ ⟨Nat.le_of_ble_eq_true rfl, Nat.le_of_ble_eq_true rfl⟩) hK hN hZ hP (hP.sub [0, 1, 2] rfl) (va_recv (q := (RX8, TX8, 38)) hK hP (ci := 8) (q0 := 0) rfl rfl) rfl hl.1 rfl (Nat.le_of_ble_eq_true rfl) dX8_casesBy_3 ⟨Nat.le_of_ble_eq_true rfl, Nat.le_of_ble_eq_true rfl⟩ (fun r_1 hr_1 => ?_)
  obtain ⟨g_2, g_3, hsr_1_0⟩ := hr_1
  refine lv_istore (lv' := [(6, .int r_1), (0, .ref m0), (1, .int p_), (2, .int 2), (3, .int d), (4, .int sec), (5, .int wh)]) hx hb dX8_casesBy_6 hl (by decide) rfl (fun ls hl => ?_)
  refine lv_iload hx hb dX8_casesBy_8 (lv_at hl 0 rfl) ?_
  refine lv_if_ne (tgt := 17) hx hb dX8_casesBy_10 (by decide) (fun c_4 => ?_) (fun c_4 => ?_)
  · have fc_4 : r_1.toInt ≠ 0 := zf_ne c_4 rfl (by decide)
    refine lv_iload hx hb dX8_casesBy_17 (lv_at hl 0 rfl) ?_
    refine lv_aload_n hx hb dX8_casesBy_19 rfl (lv_at hl 1 rfl) ?_
    refine lv_iload_n hx hb dX8_casesBy_20 rfl (lv_at hl 3 rfl) ?_
    refine lv_iconst (v := 1) hx hb dX8_casesBy_21 (by decide) ?_
    refine lv_isub hx hb dX8_casesBy_22 ?_
    refine lv_topi (fun y_5 ey_5 => ?_)
    obtain rfl : y_5 = 1 := ey_5.trans (by decide)
    refine lv_aload_n hx hb dX8_casesBy_23 rfl (lv_at hl 1 rfl) ?_
    refine lv_iload_n hx hb dX8_casesBy_24 rfl (lv_at hl 2 rfl) ?_
    refine lv_iload_n hx hb dX8_casesBy_25 rfl (lv_at hl 4 rfl) ?_
    refine lv_iconst (v := 1) hx hb dX8_casesBy_26 (by decide) ?_
    have kc1 : (1 : Int32).toInt = 1 := by decide
    refine zc_V (As := [.int p_, .int d, .int 1]) (rest := [.int 1, .ref m0, .int r_1]) ⟨hx, hb, hml, hown, hts⟩ (c_F_M_deep l D cI cJ cZ cP cS po m0 mrf mki mpa mta mla msl mco mhe mso msi msh mce mca mwo mnu mte mwa mke mma mth mtr (npu) (nte) (nat_) (nde) (nto) (nse) (nhu) (nga) (nsd) (nfa) (nba) (npl) (nen) (nnu) (nwr) (nra) (nik) gki gpa (p_) (d) (1) hy0 hy1 hy2 hy3 hy4 hy5 hy6 hy7 hy8 hy9 hy10 hy11 hy12 hy13 hy14 hy15 hy16 hy17 (by omega) (by omega) hp_gki hp_gpa) (cwV 3 hts gX8_casesBy_X8_deep rfl rfl rfl ⟨rfl, dh_X8_deep⟩ ⟨Nat.le_of_ble_eq_true rfl, Nat.le_of_ble_eq_true rfl⟩) hK hN hZ hP (hP.sub [0, 1, 2] rfl) (va_recv (q := (RX8, TX8, 38)) hK hP (ci := 8) (q0 := 0) rfl rfl) rfl hl.1 rfl (Nat.le_of_ble_eq_true rfl) dX8_casesBy_27 ⟨Nat.le_of_ble_eq_true rfl, Nat.le_of_ble_eq_true rfl⟩ (fun r_6 hr_6 => ?_)
    obtain ⟨g_7, g_8, hsr_6_0⟩ := hr_6
    refine lv_iload hx hb dX8_casesBy_30 (lv_at hl 5 rfl) ?_
    refine lv_aload_n hx hb dX8_casesBy_32 rfl (lv_at hl 1 rfl) ?_
    refine va_get (D := D) (ci := 8) (v := .ref mta) (C := RX8) (T := TX8) (N := 38) hx hb hts hi_X8_casesBy_8 hown hK hP 0 rfl rfl 13 (by decide) (hts (.fieldLink RX8 35 "TheLiningsInItModel" "takes" "[I") (List.mem_of_getElem? (i := 1) rfl)) (fun _ h9 => h9) rfl dX8_casesBy_33 ?_
    refine lv_iload_n hx hb dX8_casesBy_36 rfl (lv_at hl 2 rfl) ?_
    refine va_iald hx hb hK hP 3 0 rfl rfl (zf_in (by omega) (by omega)) dX8_casesBy_37 ?_
    refine lv_topi (fun x_9 ex_9 => ?_)
    have bx_9 : 0 ≤ x_9.toInt ∧ x_9.toInt ≤ 60 := by rw [ex_9]; exact hp_gta _
    have htx_9 : x_9.toInt ≤ sec.toInt := by (rw [ex_9]; exact htl)
    refine lv_isub hx hb dX8_casesBy_38 ?_
    refine lv_topi (fun x_10 ex_10 => ?_)
    have qx_10 : x_10.toInt = sec.toInt - x_9.toInt := by rw [ex_10]; exact zf_sub rfl rfl (by omega) (by omega)
    refine lv_iload hx hb dX8_casesBy_39 (lv_at hl 6 rfl) ?_
    refine zc_V (As := [.int 1, .int r_6, .int x_10, .int wh]) (rest := [.int r_1]) ⟨hx, hb, hml, hown, hts⟩ (c_F_M_mostCases_1 l D cI cJ cZ cP cS po m0 mrf mki mpa mta mla msl mco mhe mso msi msh mce mca mwo mnu mte mwa mke mma mth mtr (npu) (nte) (nat_) (nde) (nto) (nse) (nhu) (nga) (nsd) (nfa) (nba) (npl) (nen) (nnu) (nwr) (nra) (nik) gki gpa gta (r_6) (x_10) (wh) hy0 hy1 hy2 hy3 hy4 hy5 hy6 hy7 hy8 hy9 hy10 hy11 hy12 hy13 (by omega) (by omega) (by omega) (by omega) hy20 hy21 hp_gki hp_gpa hp_gta) (cwV 4 hts gX8_casesBy_X8_mostCases rfl rfl rfl ⟨rfl, dh_X8_mostCases⟩ ⟨Nat.le_of_ble_eq_true rfl, Nat.le_of_ble_eq_true rfl⟩) hK hN hZ hP (hP.sub [0, 1, 2, 3] rfl) (va_recv (q := (RX8, TX8, 38)) hK hP (ci := 8) (q0 := 0) rfl rfl) rfl hl.1 rfl (Nat.le_of_ble_eq_true rfl) dX8_casesBy_41 ⟨Nat.le_of_ble_eq_true rfl, Nat.le_of_ble_eq_true rfl⟩ (fun r_11 hr_11 => ?_)
    obtain ⟨g_12, g_13, hsr_11_0⟩ := hr_11
    refine lv_imul hx hb dX8_casesBy_44 ?_
    refine lv_topi (fun x_14 ex_14 => ?_)
    obtain ⟨mx_14, nx_14, ox_14⟩ := zf_mulc (a := r_1) (b := r_11) (x := r_1.toInt) (y := r_11.toInt) (P := 12) rfl rfl ⟨by omega, by omega⟩ ⟨by omega, by omega⟩ (by decide)
    rw [← ex_14] at mx_14
    refine lv_istore (lv' := [(7, .int x_14), (6, .int r_1), (0, .ref m0), (1, .int p_), (2, .int 2), (3, .int d), (4, .int sec), (5, .int wh)]) hx hb dX8_casesBy_45 hl (by decide) rfl (fun ls hl => ?_)
    refine lv_iload hx hb dX8_casesBy_47 (lv_at hl 1 rfl) ?_
    refine lv_bipush (v := 12) hx hb dX8_casesBy_49 (by decide) ?_
    refine lv_icmp_ne (tgt := 59) hx hb dX8_casesBy_51 (by decide) (fun c_15 => ?_) (fun c_15 => ?_)
    · have fc_15 : r_1.toInt ≠ 12 := zf_ne c_15 rfl (by decide)
      refine lv_iload hx hb dX8_casesBy_59 (lv_at hl 0 rfl) ?_
      refine lv_bipush (v := 12) hx hb dX8_casesBy_61 (by decide) ?_
      refine lv_iload hx hb dX8_casesBy_63 (lv_at hl 1 rfl) ?_
      refine lv_isub hx hb dX8_casesBy_65 ?_
      refine lv_topi (fun x_16 ex_16 => ?_)
      have qx_16 : x_16.toInt = 12 - r_1.toInt := by rw [ex_16]; exact zf_sub (by decide) rfl (by omega) (by omega)
      refine lv_aload_n hx hb dX8_casesBy_66 rfl (lv_at hl 2 rfl) ?_
      refine lv_iload_n hx hb dX8_casesBy_67 rfl (lv_at hl 4 rfl) ?_
      refine lv_iconst (v := 1) hx hb dX8_casesBy_68 (by decide) ?_
      refine lv_isub hx hb dX8_casesBy_69 ?_
      refine lv_topi (fun y_17 ey_17 => ?_)
      obtain rfl : y_17 = 1 := ey_17.trans (by decide)
      refine lv_aload_n hx hb dX8_casesBy_70 rfl (lv_at hl 2 rfl) ?_
      refine lv_iload_n hx hb dX8_casesBy_71 rfl (lv_at hl 3 rfl) ?_
      refine lv_iload_n hx hb dX8_casesBy_72 rfl (lv_at hl 5 rfl) ?_
      refine lv_iconst (v := 0) hx hb dX8_casesBy_73 (by decide) ?_
      have kc0 : (0 : Int32).toInt = 0 := by decide
      refine zc_V (As := [.int p_, .int d, .int 0]) (rest := [.int 1, .ref m0, .int x_16, .int x_14]) ⟨hx, hb, hml, hown, hts⟩ (c_F_M_deep l D cI cJ cZ cP cS po m0 mrf mki mpa mta mla msl mco mhe mso msi msh mce mca mwo mnu mte mwa mke mma mth mtr (npu) (nte) (nat_) (nde) (nto) (nse) (nhu) (nga) (nsd) (nfa) (nba) (npl) (nen) (nnu) (nwr) (nra) (nik) gki gpa (p_) (d) (0) hy0 hy1 hy2 hy3 hy4 hy5 hy6 hy7 hy8 hy9 hy10 hy11 hy12 hy13 hy14 hy15 hy16 hy17 (by omega) (by omega) hp_gki hp_gpa) (cwV 3 hts gX8_casesBy_X8_deep rfl rfl rfl ⟨rfl, dh_X8_deep⟩ ⟨Nat.le_of_ble_eq_true rfl, Nat.le_of_ble_eq_true rfl⟩) hK hN hZ hP (hP.sub [0, 1, 2] rfl) (va_recv (q := (RX8, TX8, 38)) hK hP (ci := 8) (q0 := 0) rfl rfl) rfl hl.1 rfl (Nat.le_of_ble_eq_true rfl) dX8_casesBy_74 ⟨Nat.le_of_ble_eq_true rfl, Nat.le_of_ble_eq_true rfl⟩ (fun r_18 hr_18 => ?_)
      obtain ⟨g_19, g_20, hsr_18_0⟩ := hr_18
      refine lv_iload hx hb dX8_casesBy_77 (lv_at hl 6 rfl) ?_
      refine lv_aload_n hx hb dX8_casesBy_79 rfl (lv_at hl 2 rfl) ?_
      refine va_get (D := D) (ci := 8) (v := .ref mta) (C := RX8) (T := TX8) (N := 38) hx hb hts hi_X8_casesBy_8 hown hK hP 0 rfl rfl 13 (by decide) (hts (.fieldLink RX8 35 "TheLiningsInItModel" "takes" "[I") (List.mem_of_getElem? (i := 1) rfl)) (fun _ h9 => h9) rfl dX8_casesBy_80 ?_
      refine lv_iload_n hx hb dX8_casesBy_83 rfl (lv_at hl 3 rfl) ?_
      refine va_iald hx hb hK hP 3 0 rfl rfl (zf_in (by omega) (by omega)) dX8_casesBy_84 ?_
      refine lv_topi (fun y_21 ey_21 => ?_)
      obtain rfl : x_9 = y_21 := ex_9.trans ey_21.symm
      refine lv_isub hx hb dX8_casesBy_85 ?_
      refine lv_topi (fun y_22 ey_22 => ?_)
      obtain rfl : x_10 = y_22 := ex_10.trans ey_22.symm
      refine lv_iload hx hb dX8_casesBy_86 (lv_at hl 7 rfl) ?_
      refine zc_V (As := [.int 1, .int r_18, .int x_10, .int wh]) (rest := [.int x_16, .int x_14]) ⟨hx, hb, hml, hown, hts⟩ (c_F_M_mostCases_1 l D cI cJ cZ cP cS po m0 mrf mki mpa mta mla msl mco mhe mso msi msh mce mca mwo mnu mte mwa mke mma mth mtr (npu) (nte) (nat_) (nde) (nto) (nse) (nhu) (nga) (nsd) (nfa) (nba) (npl) (nen) (nnu) (nwr) (nra) (nik) gki gpa gta (r_18) (x_10) (wh) hy0 hy1 hy2 hy3 hy4 hy5 hy6 hy7 hy8 hy9 hy10 hy11 hy12 hy13 (by omega) (by omega) (by omega) (by omega) hy20 hy21 hp_gki hp_gpa hp_gta) (cwV 4 hts gX8_casesBy_X8_mostCases rfl rfl rfl ⟨rfl, dh_X8_mostCases⟩ ⟨Nat.le_of_ble_eq_true rfl, Nat.le_of_ble_eq_true rfl⟩) hK hN hZ hP (hP.sub [0, 1, 2, 3] rfl) (va_recv (q := (RX8, TX8, 38)) hK hP (ci := 8) (q0 := 0) rfl rfl) rfl hl.1 rfl (Nat.le_of_ble_eq_true rfl) dX8_casesBy_88 ⟨Nat.le_of_ble_eq_true rfl, Nat.le_of_ble_eq_true rfl⟩ (fun r_23 hr_23 => ?_)
      obtain ⟨g_24, g_25, hsr_23_0⟩ := hr_23
      refine lv_imul hx hb dX8_casesBy_91 ?_
      refine lv_topi (fun x_26 ex_26 => ?_)
      obtain ⟨mx_26, nx_26, ox_26⟩ := zf_mulc (a := x_16) (b := r_23) (x := x_16.toInt) (y := r_23.toInt) (P := 12) rfl rfl ⟨by omega, by omega⟩ ⟨by omega, by omega⟩ (by decide)
      rw [← ex_26] at mx_26
      refine lv_iadd hx hb dX8_casesBy_92 ?_
      refine lv_topi (fun x_27 ex_27 => ?_)
      have qx_27 : x_27.toInt = x_14.toInt + x_26.toInt := by rw [ex_27]; exact zf_add rfl rfl (by omega) (by omega)
      have hmx9 := zMix (w := r_1.toInt) (x := r_11.toInt) (y := r_23.toInt) (P := 12) ⟨by omega, by omega⟩ ⟨by omega, by omega⟩ ⟨by omega, by omega⟩
      rw [show 12 - r_1.toInt = x_16.toInt from by omega] at hmx9
      exact W.iret (v := x_27) hx hb hr (fun t ht hW => ⟨x_27, rfl, ⟨by omega, by omega, (show (x_27 : Int32).toInt = zBy1 (zM gki gpa gta npu.toInt.toNat nhu.toInt (if wh.toInt = 0 then 1 else 0) 1) (gki p_.toNatClampNeg).toInt (gpa p_.toNatClampNeg).toInt (gta p_.toNatClampNeg).toInt nhu.toInt d.toInt sec.toInt from by (have zw := hsr_1_0; have E1 : r_1.toInt * (zM gki gpa gta npu.toInt.toNat nhu.toInt (if wh.toInt = 0 then 1 else 0) 1) (zShl (gki p_.toNatClampNeg).toInt (gpa p_.toNatClampNeg).toInt d.toInt) (sec.toInt - (gta p_.toNatClampNeg).toInt) = x_14.toInt := (by rw [← hsr_6_0.1 (by decide), show sec.toInt - (gta p_.toNatClampNeg).toInt = (x_10 : Int32).toInt from by (have z : (gta p_.toNatClampNeg).toInt = x_9.toInt := (by rw [ex_9]); omega), ← hsr_11_0]; omega); have E2 : (12 - r_1.toInt) * (zM gki gpa gta npu.toInt.toNat nhu.toInt (if wh.toInt = 0 then 1 else 0) 1) (zDpr (gki p_.toNatClampNeg).toInt (gpa p_.toNatClampNeg).toInt nhu.toInt d.toInt) (sec.toInt - (gta p_.toNatClampNeg).toInt) = x_26.toInt := (by rw [← hsr_18_0.2 (by decide), show sec.toInt - (gta p_.toNatClampNeg).toInt = (x_10 : Int32).toInt from by (have z : (gta p_.toNatClampNeg).toInt = x_9.toInt := (by rw [ex_9]); omega), ← hsr_23_0, show 12 - r_1.toInt = x_16.toInt from by omega]; omega); unfold zBy1; rw [← zw, E1, E2]; omega))⟩, ht⟩) (fun q hq => by cases hq) dX8_casesBy_93
    · have fc_15 : r_1.toInt = 12 := zf_eq c_15 rfl (by decide)
      refine lv_iload hx hb dX8_casesBy_54 (lv_at hl 0 rfl) ?_
      refine lv_goto (tgt := 93) hx hb dX8_casesBy_56 (by decide) ?_
      exact W.iret (v := x_14) hx hb hr (fun t ht hW => ⟨x_14, rfl, ⟨by omega, by omega, (show (x_14 : Int32).toInt = zBy1 (zM gki gpa gta npu.toInt.toNat nhu.toInt (if wh.toInt = 0 then 1 else 0) 1) (gki p_.toNatClampNeg).toInt (gpa p_.toNatClampNeg).toInt (gta p_.toNatClampNeg).toInt nhu.toInt d.toInt sec.toInt from by (have zw := hsr_1_0; have E1 : r_1.toInt * (zM gki gpa gta npu.toInt.toNat nhu.toInt (if wh.toInt = 0 then 1 else 0) 1) (zShl (gki p_.toNatClampNeg).toInt (gpa p_.toNatClampNeg).toInt d.toInt) (sec.toInt - (gta p_.toNatClampNeg).toInt) = x_14.toInt := (by rw [← hsr_6_0.1 (by decide), show sec.toInt - (gta p_.toNatClampNeg).toInt = (x_10 : Int32).toInt from by (have z : (gta p_.toNatClampNeg).toInt = x_9.toInt := (by rw [ex_9]); omega), ← hsr_11_0]; omega); have E2 : (12 - r_1.toInt) * (zM gki gpa gta npu.toInt.toNat nhu.toInt (if wh.toInt = 0 then 1 else 0) 1) (zDpr (gki p_.toNatClampNeg).toInt (gpa p_.toNatClampNeg).toInt nhu.toInt d.toInt) (sec.toInt - (gta p_.toNatClampNeg).toInt) = 0 := (by rw [show 12 - r_1.toInt = 0 from by omega, Int.zero_mul]); unfold zBy1; rw [← zw, E1, E2]; omega))⟩, ht⟩) (fun q hq => by cases hq) dX8_casesBy_93
  · have fc_4 : r_1.toInt = 0 := zf_eq c_4 rfl (by decide)
    refine lv_iconst (v := 0) hx hb dX8_casesBy_13 (by decide) ?_
    refine lv_goto (tgt := 45) hx hb dX8_casesBy_14 (by decide) ?_
    refine lv_istore (lv' := [(7, .int 0), (6, .int r_1), (0, .ref m0), (1, .int p_), (2, .int 2), (3, .int d), (4, .int sec), (5, .int wh)]) hx hb dX8_casesBy_45 hl (by decide) rfl (fun ls hl => ?_)
    refine lv_iload hx hb dX8_casesBy_47 (lv_at hl 1 rfl) ?_
    refine lv_bipush (v := 12) hx hb dX8_casesBy_49 (by decide) ?_
    refine lv_icmp_ne (tgt := 59) hx hb dX8_casesBy_51 (by decide) (fun c_28 => ?_) (fun c_28 => ?_)
    · have fc_28 : r_1.toInt ≠ 12 := zf_ne c_28 rfl (by decide)
      refine lv_iload hx hb dX8_casesBy_59 (lv_at hl 0 rfl) ?_
      refine lv_bipush (v := 12) hx hb dX8_casesBy_61 (by decide) ?_
      refine lv_iload hx hb dX8_casesBy_63 (lv_at hl 1 rfl) ?_
      refine lv_isub hx hb dX8_casesBy_65 ?_
      refine lv_topi (fun x_29 ex_29 => ?_)
      have qx_29 : x_29.toInt = 12 - r_1.toInt := by rw [ex_29]; exact zf_sub (by decide) rfl (by omega) (by omega)
      refine lv_aload_n hx hb dX8_casesBy_66 rfl (lv_at hl 2 rfl) ?_
      refine lv_iload_n hx hb dX8_casesBy_67 rfl (lv_at hl 4 rfl) ?_
      refine lv_iconst (v := 1) hx hb dX8_casesBy_68 (by decide) ?_
      refine lv_isub hx hb dX8_casesBy_69 ?_
      refine lv_topi (fun y_30 ey_30 => ?_)
      obtain rfl : y_30 = 1 := ey_30.trans (by decide)
      refine lv_aload_n hx hb dX8_casesBy_70 rfl (lv_at hl 2 rfl) ?_
      refine lv_iload_n hx hb dX8_casesBy_71 rfl (lv_at hl 3 rfl) ?_
      refine lv_iload_n hx hb dX8_casesBy_72 rfl (lv_at hl 5 rfl) ?_
      refine lv_iconst (v := 0) hx hb dX8_casesBy_73 (by decide) ?_
      have kc0 : (0 : Int32).toInt = 0 := by decide
      refine zc_V (As := [.int p_, .int d, .int 0]) (rest := [.int 1, .ref m0, .int x_29, .int 0]) ⟨hx, hb, hml, hown, hts⟩ (c_F_M_deep l D cI cJ cZ cP cS po m0 mrf mki mpa mta mla msl mco mhe mso msi msh mce mca mwo mnu mte mwa mke mma mth mtr (npu) (nte) (nat_) (nde) (nto) (nse) (nhu) (nga) (nsd) (nfa) (nba) (npl) (nen) (nnu) (nwr) (nra) (nik) gki gpa (p_) (d) (0) hy0 hy1 hy2 hy3 hy4 hy5 hy6 hy7 hy8 hy9 hy10 hy11 hy12 hy13 hy14 hy15 hy16 hy17 (by omega) (by omega) hp_gki hp_gpa) (cwV 3 hts gX8_casesBy_X8_deep rfl rfl rfl ⟨rfl, dh_X8_deep⟩ ⟨Nat.le_of_ble_eq_true rfl, Nat.le_of_ble_eq_true rfl⟩) hK hN hZ hP (hP.sub [0, 1, 2] rfl) (va_recv (q := (RX8, TX8, 38)) hK hP (ci := 8) (q0 := 0) rfl rfl) rfl hl.1 rfl (Nat.le_of_ble_eq_true rfl) dX8_casesBy_74 ⟨Nat.le_of_ble_eq_true rfl, Nat.le_of_ble_eq_true rfl⟩ (fun r_31 hr_31 => ?_)
      obtain ⟨g_32, g_33, hsr_31_0⟩ := hr_31
      refine lv_iload hx hb dX8_casesBy_77 (lv_at hl 6 rfl) ?_
      refine lv_aload_n hx hb dX8_casesBy_79 rfl (lv_at hl 2 rfl) ?_
      refine va_get (D := D) (ci := 8) (v := .ref mta) (C := RX8) (T := TX8) (N := 38) hx hb hts hi_X8_casesBy_8 hown hK hP 0 rfl rfl 13 (by decide) (hts (.fieldLink RX8 35 "TheLiningsInItModel" "takes" "[I") (List.mem_of_getElem? (i := 1) rfl)) (fun _ h9 => h9) rfl dX8_casesBy_80 ?_
      refine lv_iload_n hx hb dX8_casesBy_83 rfl (lv_at hl 3 rfl) ?_
      refine va_iald hx hb hK hP 3 0 rfl rfl (zf_in (by omega) (by omega)) dX8_casesBy_84 ?_
      refine lv_topi (fun x_34 ex_34 => ?_)
      have bx_34 : 0 ≤ x_34.toInt ∧ x_34.toInt ≤ 60 := by rw [ex_34]; exact hp_gta _
      have htx_34 : x_34.toInt ≤ sec.toInt := by (rw [ex_34]; exact htl)
      refine lv_isub hx hb dX8_casesBy_85 ?_
      refine lv_topi (fun x_35 ex_35 => ?_)
      have qx_35 : x_35.toInt = sec.toInt - x_34.toInt := by rw [ex_35]; exact zf_sub rfl rfl (by omega) (by omega)
      refine lv_iload hx hb dX8_casesBy_86 (lv_at hl 7 rfl) ?_
      refine zc_V (As := [.int 1, .int r_31, .int x_35, .int wh]) (rest := [.int x_29, .int 0]) ⟨hx, hb, hml, hown, hts⟩ (c_F_M_mostCases_1 l D cI cJ cZ cP cS po m0 mrf mki mpa mta mla msl mco mhe mso msi msh mce mca mwo mnu mte mwa mke mma mth mtr (npu) (nte) (nat_) (nde) (nto) (nse) (nhu) (nga) (nsd) (nfa) (nba) (npl) (nen) (nnu) (nwr) (nra) (nik) gki gpa gta (r_31) (x_35) (wh) hy0 hy1 hy2 hy3 hy4 hy5 hy6 hy7 hy8 hy9 hy10 hy11 hy12 hy13 (by omega) (by omega) (by omega) (by omega) hy20 hy21 hp_gki hp_gpa hp_gta) (cwV 4 hts gX8_casesBy_X8_mostCases rfl rfl rfl ⟨rfl, dh_X8_mostCases⟩ ⟨Nat.le_of_ble_eq_true rfl, Nat.le_of_ble_eq_true rfl⟩) hK hN hZ hP (hP.sub [0, 1, 2, 3] rfl) (va_recv (q := (RX8, TX8, 38)) hK hP (ci := 8) (q0 := 0) rfl rfl) rfl hl.1 rfl (Nat.le_of_ble_eq_true rfl) dX8_casesBy_88 ⟨Nat.le_of_ble_eq_true rfl, Nat.le_of_ble_eq_true rfl⟩ (fun r_36 hr_36 => ?_)
      obtain ⟨g_37, g_38, hsr_36_0⟩ := hr_36
      refine lv_imul hx hb dX8_casesBy_91 ?_
      refine lv_topi (fun x_39 ex_39 => ?_)
      obtain ⟨mx_39, nx_39, ox_39⟩ := zf_mulc (a := x_29) (b := r_36) (x := x_29.toInt) (y := r_36.toInt) (P := 12) rfl rfl ⟨by omega, by omega⟩ ⟨by omega, by omega⟩ (by decide)
      rw [← ex_39] at mx_39
      refine lv_iadd hx hb dX8_casesBy_92 ?_
      refine lv_topi (fun x_40 ex_40 => ?_)
      have qx_40 : x_40.toInt = 0 + x_39.toInt := by rw [ex_40]; exact zf_add (by decide) rfl (by omega) (by omega)
      exact W.iret (v := x_40) hx hb hr (fun t ht hW => ⟨x_40, rfl, ⟨by omega, by omega, (show (x_40 : Int32).toInt = zBy1 (zM gki gpa gta npu.toInt.toNat nhu.toInt (if wh.toInt = 0 then 1 else 0) 1) (gki p_.toNatClampNeg).toInt (gpa p_.toNatClampNeg).toInt (gta p_.toNatClampNeg).toInt nhu.toInt d.toInt sec.toInt from by (have zw := hsr_1_0; have E1 : r_1.toInt * (zM gki gpa gta npu.toInt.toNat nhu.toInt (if wh.toInt = 0 then 1 else 0) 1) (zShl (gki p_.toNatClampNeg).toInt (gpa p_.toNatClampNeg).toInt d.toInt) (sec.toInt - (gta p_.toNatClampNeg).toInt) = 0 := (by rw [show r_1.toInt = 0 from by omega, Int.zero_mul]); have E2 : (12 - r_1.toInt) * (zM gki gpa gta npu.toInt.toNat nhu.toInt (if wh.toInt = 0 then 1 else 0) 1) (zDpr (gki p_.toNatClampNeg).toInt (gpa p_.toNatClampNeg).toInt nhu.toInt d.toInt) (sec.toInt - (gta p_.toNatClampNeg).toInt) = x_39.toInt := (by rw [← hsr_31_0.2 (by decide), show sec.toInt - (gta p_.toNatClampNeg).toInt = (x_35 : Int32).toInt from by (have z : (gta p_.toNatClampNeg).toInt = x_34.toInt := (by rw [ex_34]); omega), ← hsr_36_0, show 12 - r_1.toInt = x_29.toInt from by omega]; omega); unfold zBy1; rw [← zw, E1, E2]; omega))⟩, ht⟩) (fun q hq => by cases hq) dX8_casesBy_93
    · exfalso; have fc_28 : r_1.toInt = 12 := zf_eq c_28 rfl (by decide); omega
set_option maxHeartbeats 4000000 in
set_option maxRecDepth 100000 in
theorem c_F_M_mostCases_2 (l : Launch) (D : va_G) (cI cJ cZ cP cS : ClassId) (po : zPool) (m0 mrf mki mpa mta mla msl mco mhe mso msi msh mce mca mwo mnu mte mwa mke mma mth mtr : Nat) (npu nte nat_ nde nto nse nhu nga nsd nfa nba npl nen nnu nwr nra nik : Int32) (gki gpa gta : Nat → Int32) (d sec wh : Int32) (hy0 : 0 ≤ npu.toInt) (hy1 : npu.toInt ≤ 8) (hy2 : 4 ≤ nte.toInt) (hy3 : nte.toInt ≤ 40) (hy4 : 0 ≤ nat_.toInt) (hy5 : nat_.toInt ≤ 40) (hy6 : 0 ≤ nde.toInt) (hy7 : nde.toInt ≤ 24) (hy8 : 0 ≤ nhu.toInt) (hy9 : nhu.toInt ≤ 9) (hy10 : 0 ≤ nra.toInt) (hy11 : nra.toInt ≤ 2000) (hy12 : 0 ≤ nik.toInt) (hy13 : nik.toInt ≤ 1) (hy14 : 0 ≤ d.toInt) (hy15 : d.toInt ≤ 24) (hy16 : 0 ≤ sec.toInt) (hy17 : sec.toInt ≤ 300) (hy18 : 0 ≤ wh.toInt) (hy19 : wh.toInt ≤ 1) (hp_gki : zRg gki (0) 6) (hp_gpa : zRg gpa (0) 9) (hp_gta : zRg gta (0) 60) : Met l yX8_mostCases wsX8_mostCases ({ frames := 5, cells := 0, slots := 0, locals := 129 }) (va_Pc [.ref m0, .int 2, .int d, .int sec, .int wh] (zR D (zKT cI cJ cZ cP cS) po [(zMO m0 npu nte nat_ nde nto nse nhu nga nsd nfa mrf mki mpa mta mla msl mco mhe mso msi msh mce mca mwo mnu mte nba npl nen nnu nwr mwa mke mma mth mtr nra nik), (mki, .inl (cI, 8, .inl gki)), (mpa, .inl (cI, 8, .inl gpa)), (mta, .inl (cI, 8, .inl gta))])) (vp_Si (fun r => 0 ≤ r.toInt ∧ r.toInt ≤ 144 ∧ (r.toInt = (zM gki gpa gta npu.toInt.toNat nhu.toInt (if wh.toInt = 0 then 1 else 0) 2) d.toInt sec.toInt))) 0 0 (fun _ => False) := by
  refine Met.ofW (cc := cX8_mostCases) (maxL := 8) (ret := (some .int)) (by decide) rfl ?_
  intro p e s m args below meth c s₁ B hml hv
  obtain ⟨rfl, hP, hK, hN, hZ⟩ := hv
  have hx := B.exec
  have hb := B.bytes
  have hr := B.returns
  have hts := atoms_spec (ws := wsX8_mostCases) B.pre
  have hown : s.vm.findClass RX8 = some m.cls := findClass_of_methodNamed B.named
  have hlocks := B.notSynchronized
  have hl := lv_entry ([.ref m0, .int 2, .int d, .int sec, .int wh]) (n := 8) (Nat.le_of_ble_eq_true rfl)
  rw [lg_entry_eq]
  generalize (lg_sl ([.ref m0, .int 2, .int d, .int sec, .int wh]) ++ List.replicate (8 - (lg_sl ([.ref m0, .int 2, .int d, .int sec, .int wh])).length) Slot.unset).toArray = ls at hl ⊢
  replace hl : lv_has ls 8 [(0, .ref m0), (1, .int 2), (2, .int d), (3, .int sec), (4, .int wh)] := hl
  refine lv_iload_n hx hb dX8_mostCases_0 rfl (lv_at hl 2 rfl) ?_
  refine lv_if_ne (tgt := 10) hx hb dX8_mostCases_1 (by decide) (fun c_1 => ?_) (fun c_1 => ?_)
  · have fc_1 : d.toInt ≠ 0 := zf_ne c_1 rfl (by decide)
    refine lv_iload_n hx hb dX8_mostCases_10 rfl (lv_at hl 1 rfl) ?_
    refine lv_if_ne (tgt := 16) hx hb dX8_mostCases_11 (by decide) (fun c_2 => ?_) (fun c_2 => ?_)
    · refine lv_bipush (v := 12) hx hb dX8_mostCases_16 (by decide) ?_
      refine lv_aload_n hx hb dX8_mostCases_18 rfl (lv_at hl 0 rfl) ?_
      refine lv_iload_n hx hb dX8_mostCases_19 rfl (lv_at hl 1 rfl) ?_
      refine lv_iconst (v := 1) hx hb dX8_mostCases_20 (by decide) ?_
      refine lv_isub hx hb dX8_mostCases_21 ?_
      refine lv_topi (fun y_3 ey_3 => ?_)
      obtain rfl : y_3 = 1 := ey_3.trans (by decide)
      refine lv_iload_n hx hb dX8_mostCases_22 rfl (lv_at hl 2 rfl) ?_
      refine lv_iload_n hx hb dX8_mostCases_23 rfl (lv_at hl 3 rfl) ?_
      refine lv_iload hx hb dX8_mostCases_24 (lv_at hl 4 rfl) ?_
      refine zc_V (As := [.int 1, .int d, .int sec, .int wh]) (rest := [.int 12]) ⟨hx, hb, hml, hown, hts⟩ (c_F_M_mostCases_1 l D cI cJ cZ cP cS po m0 mrf mki mpa mta mla msl mco mhe mso msi msh mce mca mwo mnu mte mwa mke mma mth mtr (npu) (nte) (nat_) (nde) (nto) (nse) (nhu) (nga) (nsd) (nfa) (nba) (npl) (nen) (nnu) (nwr) (nra) (nik) gki gpa gta (d) (sec) (wh) hy0 hy1 hy2 hy3 hy4 hy5 hy6 hy7 hy8 hy9 hy10 hy11 hy12 hy13 hy14 hy15 hy16 hy17 hy18 hy19 hp_gki hp_gpa hp_gta) (cwV 4 hts gX8_mostCases_X8_mostCases rfl rfl rfl ⟨rfl, dh_X8_mostCases⟩ ⟨Nat.le_of_ble_eq_true rfl, Nat.le_of_ble_eq_true rfl⟩) hK hN hZ hP (hP.sub [0, 1, 2, 3] rfl) (va_recv (q := (RX8, TX8, 38)) hK hP (ci := 8) (q0 := 0) rfl rfl) rfl hl.1 rfl (Nat.le_of_ble_eq_true rfl) dX8_mostCases_26 ⟨Nat.le_of_ble_eq_true rfl, Nat.le_of_ble_eq_true rfl⟩ (fun r_4 hr_4 => ?_)
      obtain ⟨g_5, g_6, hsr_4_0⟩ := hr_4
      refine lv_imul hx hb dX8_mostCases_29 ?_
      refine lv_topi (fun x_7 ex_7 => ?_)
      have qx_7 : x_7.toInt = 12 * r_4.toInt := by rw [ex_7]; exact zf_mul (by decide) rfl (by omega) (by omega)
      refine lv_istore (lv' := [(5, .int x_7), (0, .ref m0), (1, .int 2), (2, .int d), (3, .int sec), (4, .int wh)]) hx hb dX8_mostCases_30 hl (by decide) rfl (fun ls hl => ?_)
      refine lv_iconst (v := 0) hx hb dX8_mostCases_32 (by decide) ?_
      refine lv_istore (lv' := [(6, .int 0), (5, .int x_7), (0, .ref m0), (1, .int 2), (2, .int d), (3, .int sec), (4, .int wh)]) hx hb dX8_mostCases_33 hl (by decide) rfl (fun ls hl => ?_)
      obtain ⟨i_35, hi_35⟩ : ∃ i : Int32, i = 0 := ⟨_, rfl⟩
      replace hl : lv_has ls 8 [(6, .int i_35), (5, .int x_7), (0, .ref m0), (1, .int 2), (2, .int d), (3, .int sec), (4, .int wh)] := by rw [hi_35]; exact lv_sub hl [0, 1, 2, 3, 4, 5, 6] rfl
      have h1i_35 : i_35.toInt = 0 := by rw [hi_35]; decide
      obtain ⟨nfu, hni_35⟩ : ∃ nq9 : Nat, npu.toInt ≤ i_35.toInt + (nq9 : Int) := ⟨((npu.toInt : Int) - 0).toNat, by omega⟩
      have hloi_35 : 0 ≤ i_35.toInt := by omega
      obtain ⟨v_8, hv_8⟩ : ∃ g : Int32, g = x_7 := ⟨_, rfl⟩
      replace hl : lv_has ls 8 [(6, .int i_35), (5, .int v_8), (0, .ref m0), (1, .int 2), (2, .int d), (3, .int sec), (4, .int wh)] := by rw [hv_8]; exact hl
      have hbv_8 : 0 ≤ v_8.toInt ∧ v_8.toInt ≤ 144 := by rw [hv_8]; exact ⟨by omega, by omega⟩
      have hvi_35_0 : (v_8 : Int32).toInt = zFo gki gta (if wh.toInt = 0 then 1 else 0) d.toInt sec.toInt (12 * (zM gki gpa gta npu.toInt.toNat nhu.toInt (if wh.toInt = 0 then 1 else 0) 1) d.toInt sec.toInt) (zBy (zM gki gpa gta npu.toInt.toNat nhu.toInt (if wh.toInt = 0 then 1 else 0) 1) gki gpa gta nhu.toInt d.toInt sec.toInt) i_35.toInt.toNat := by
        (try rw [hi_35]); (try rw [hv_8]); (rw [(show ((0 : Int32).toInt.toNat) = 0 from by decide)]; have z := hsr_4_0; show _ = 12 * (zM gki gpa gta npu.toInt.toNat nhu.toInt (if wh.toInt = 0 then 1 else 0) 1) d.toInt sec.toInt; rw [← z]; omega)
      have hvi_35_1 : i_35.toInt ≤ npu.toInt := by
        (try rw [hi_35]); (try rw [hv_8]); (have k0 : (0 : Int32).toInt = 0 := (by decide); omega)
      clear h1i_35 hi_35 hv_8
      revert hni_35
      revert hloi_35
      revert hvi_35_1
      revert hvi_35_0
      revert hbv_8
      revert hl
      revert ls
      revert v_8
      revert i_35
      induction nfu with
      | zero =>
        intro i_35 v_8 ls hl hbv_8 hvi_35_0 hvi_35_1 hloi_35 hni_35
        have hzi_35 : npu.toInt ≤ i_35.toInt := by omega
        refine lv_iload hx hb dX8_mostCases_35 (lv_at hl 0 rfl) ?_
        refine lv_aload_n hx hb dX8_mostCases_37 rfl (lv_at hl 2 rfl) ?_
        refine va_get (D := D) (ci := 8) (v := .int npu) (C := RX8) (T := TX8) (N := 38) hx hb hts hi_X8_mostCases_8 hown hK hP 0 rfl rfl 0 (by decide) (hts (.fieldLink RX8 90 "TheLiningsInItModel" "pulls" "I") (List.mem_of_getElem? (i := 1) rfl)) (fun _ h9 => h9) rfl dX8_mostCases_38 ?_
        refine lv_icmp_ge (tgt := 109) hx hb dX8_mostCases_41 (by decide) (fun c_9 => ?_) (fun c_9 => ?_)
        · have fc_9 : npu.toInt ≤ i_35.toInt := zf_le c_9 rfl rfl
          refine lv_iload hx hb dX8_mostCases_109 (lv_at hl 1 rfl) ?_
          exact W.iret (v := v_8) hx hb hr (fun t ht hW => ⟨v_8, rfl, ⟨by omega, by omega, (show (v_8 : Int32).toInt = (zM gki gpa gta npu.toInt.toNat nhu.toInt (if wh.toInt = 0 then 1 else 0) 2) d.toInt sec.toInt from by (have h9 : i_35.toInt.toNat = npu.toInt.toNat := (by omega); have z := hvi_35_0; rw [h9, zM_ref (by omega)] at z; exact z))⟩, ht⟩) (fun q hq => by cases hq) dX8_mostCases_111
        · exfalso; have fc_9 : i_35.toInt < npu.toInt := zf_nle c_9 rfl rfl; omega
      | succ nfu ih =>
        intro i_35 v_8 ls hl hbv_8 hvi_35_0 hvi_35_1 hloi_35 hni_35
        refine lv_iload hx hb dX8_mostCases_35 (lv_at hl 0 rfl) ?_
        refine lv_aload_n hx hb dX8_mostCases_37 rfl (lv_at hl 2 rfl) ?_
        refine va_get (D := D) (ci := 8) (v := .int npu) (C := RX8) (T := TX8) (N := 38) hx hb hts hi_X8_mostCases_8 hown hK hP 0 rfl rfl 0 (by decide) (hts (.fieldLink RX8 90 "TheLiningsInItModel" "pulls" "I") (List.mem_of_getElem? (i := 1) rfl)) (fun _ h9 => h9) rfl dX8_mostCases_38 ?_
        refine lv_icmp_ge (tgt := 109) hx hb dX8_mostCases_41 (by decide) (fun c_10 => ?_) (fun c_10 => ?_)
        · have fc_10 : npu.toInt ≤ i_35.toInt := zf_le c_10 rfl rfl
          refine lv_iload hx hb dX8_mostCases_109 (lv_at hl 1 rfl) ?_
          exact W.iret (v := v_8) hx hb hr (fun t ht hW => ⟨v_8, rfl, ⟨by omega, by omega, (show (v_8 : Int32).toInt = (zM gki gpa gta npu.toInt.toNat nhu.toInt (if wh.toInt = 0 then 1 else 0) 2) d.toInt sec.toInt from by (have h9 : i_35.toInt.toNat = npu.toInt.toNat := (by omega); have z := hvi_35_0; rw [h9, zM_ref (by omega)] at z; exact z))⟩, ht⟩) (fun q hq => by cases hq) dX8_mostCases_111
        · have fc_10 : i_35.toInt < npu.toInt := zf_nle c_10 rfl rfl
          refine lv_aload_n hx hb dX8_mostCases_44 rfl (lv_at hl 2 rfl) ?_
          refine lv_iload hx hb dX8_mostCases_45 (lv_at hl 0 rfl) ?_
          refine lv_iload_n hx hb dX8_mostCases_47 rfl (lv_at hl 4 rfl) ?_
          refine lv_iload_n hx hb dX8_mostCases_48 rfl (lv_at hl 5 rfl) ?_
          refine zc_V (As := [.int i_35, .int d, .int sec]) (rest := []) ⟨hx, hb, hml, hown, hts⟩ (c_F_M_mayBe l D cI cJ cZ cP cS po m0 mrf mki mpa mta mla msl mco mhe mso msi msh mce mca mwo mnu mte mwa mke mma mth mtr (npu) (nte) (nat_) (nde) (nto) (nse) (nhu) (nga) (nsd) (nfa) (nba) (npl) (nen) (nnu) (nwr) (nra) (nik) gta (i_35) (d) (sec) hy0 hy1 hy2 hy3 hy4 hy5 hy6 hy7 hy8 hy9 hy10 hy11 hy12 hy13 (by omega) (by omega) hp_gta) (cwV 3 hts gX8_mostCases_X8_mayBe rfl rfl rfl ⟨rfl, dh_X8_mayBe⟩ ⟨Nat.le_of_ble_eq_true rfl, Nat.le_of_ble_eq_true rfl⟩) hK hN hZ hP (hP.sub [0, 3] rfl) (va_recv (q := (RX8, TX8, 38)) hK hP (ci := 8) (q0 := 0) rfl rfl) rfl hl.1 rfl (Nat.le_of_ble_eq_true rfl) dX8_mostCases_49 ⟨Nat.le_of_ble_eq_true rfl, Nat.le_of_ble_eq_true rfl⟩ (fun r_11 hr_11 => ?_)
          obtain ⟨g_12, g_13, hsr_11_0⟩ := hr_11
          refine lv_if_eq (tgt := 103) hx hb dX8_mostCases_52 (by decide) (fun c_14 => ?_) (fun c_14 => ?_)
          · have fc_14 : r_11.toInt = 0 := zf_eq c_14 rfl (by decide)
            obtain ⟨x_15, ex_15⟩ : ∃ y : Int32, y = i_35 + 1 := ⟨_, rfl⟩
            have qx_15 : x_15.toInt = i_35.toInt + 1 := dw_inc ex_15 fc_10
            refine lv_iinc (v := x_15) (lv' := [(6, .int x_15), (5, .int v_8), (0, .ref m0), (1, .int 2), (2, .int d), (3, .int sec), (4, .int wh)]) hx hb dX8_mostCases_103 hl (k := 0) rfl ex_15.symm (by decide) rfl (fun ls hl => ?_)
            refine lv_goto (tgt := 35) hx hb dX8_mostCases_106 (by decide) ?_
            exact ih x_15 v_8 _ (lv_sub hl [0, 1, 2, 3, 4, 5, 6] rfl) hbv_8 (show (v_8 : Int32).toInt = zFo gki gta (if wh.toInt = 0 then 1 else 0) d.toInt sec.toInt (12 * (zM gki gpa gta npu.toInt.toNat nhu.toInt (if wh.toInt = 0 then 1 else 0) 1) d.toInt sec.toInt) (zBy (zM gki gpa gta npu.toInt.toNat nhu.toInt (if wh.toInt = 0 then 1 else 0) 1) gki gpa gta nhu.toInt d.toInt sec.toInt) x_15.toInt.toNat from by (have hx : x_15.toInt.toNat = i_35.toInt.toNat + 1 := (by omega); have y9 : i_35.toNatClampNeg = i_35.toInt.toNat := rfl; have hm := hsr_11_0; rw [y9] at hm; have no : ¬ zOk gki gta (if wh.toInt = 0 then 1 else 0) d.toInt sec.toInt i_35.toInt.toNat := (fun z => by first | (have z1 := hm.mpr ⟨z.1, z.2.1⟩; omega) | (have z3 := z.2.2; rw [if_neg (by omega)] at z3; omega)); rw [hx, zFo_n no]; exact hvi_35_0)) (show x_15.toInt ≤ npu.toInt from by omega) (dw_lo hloi_35 qx_15) (dw_hn hni_35 qx_15)
          · have fc_14 : r_11.toInt ≠ 0 := zf_ne c_14 rfl (by decide)
            refine lv_iload hx hb dX8_mostCases_55 (lv_at hl 6 rfl) ?_
            refine lv_if_eq (tgt := 74) hx hb dX8_mostCases_57 (by decide) (fun c_16 => ?_) (fun c_16 => ?_)
            · have fc_16 : wh.toInt = 0 := zf_eq c_16 rfl (by decide)
              have htl9 : (gta i_35.toNatClampNeg).toInt ≤ sec.toInt := (hsr_11_0.mp (by omega)).2
              refine lv_aload_n hx hb dX8_mostCases_74 rfl (lv_at hl 2 rfl) ?_
              refine lv_iload hx hb dX8_mostCases_75 (lv_at hl 0 rfl) ?_
              refine lv_iload_n hx hb dX8_mostCases_77 rfl (lv_at hl 3 rfl) ?_
              refine lv_iload_n hx hb dX8_mostCases_78 rfl (lv_at hl 4 rfl) ?_
              refine lv_iload_n hx hb dX8_mostCases_79 rfl (lv_at hl 5 rfl) ?_
              refine lv_iload hx hb dX8_mostCases_80 (lv_at hl 6 rfl) ?_
              refine zc_V (As := [.int i_35, .int 2, .int d, .int sec, .int wh]) (rest := []) ⟨hx, hb, hml, hown, hts⟩ (c_F_M_casesBy_2 l D cI cJ cZ cP cS po m0 mrf mki mpa mta mla msl mco mhe mso msi msh mce mca mwo mnu mte mwa mke mma mth mtr (npu) (nte) (nat_) (nde) (nto) (nse) (nhu) (nga) (nsd) (nfa) (nba) (npl) (nen) (nnu) (nwr) (nra) (nik) gki gpa gta (i_35) (d) (sec) (wh) hy0 hy1 hy2 hy3 hy4 hy5 hy6 hy7 hy8 hy9 hy10 hy11 hy12 hy13 (by omega) (by omega) hy14 hy15 hy16 hy17 hy18 hy19 (by first | assumption | omega) hp_gki hp_gpa hp_gta) (cwV 5 hts gX8_mostCases_X8_casesBy rfl rfl rfl ⟨rfl, dh_X8_casesBy⟩ ⟨Nat.le_of_ble_eq_true rfl, Nat.le_of_ble_eq_true rfl⟩) hK hN hZ hP (hP.sub [0, 1, 2, 3] rfl) (va_recv (q := (RX8, TX8, 38)) hK hP (ci := 8) (q0 := 0) rfl rfl) rfl hl.1 rfl (Nat.le_of_ble_eq_true rfl) dX8_mostCases_82 ⟨Nat.le_of_ble_eq_true rfl, Nat.le_of_ble_eq_true rfl⟩ (fun r_17 hr_17 => ?_)
              obtain ⟨g_18, g_19, hsr_17_0⟩ := hr_17
              refine lv_istore (lv' := [(7, .int r_17), (6, .int i_35), (5, .int v_8), (0, .ref m0), (1, .int 2), (2, .int d), (3, .int sec), (4, .int wh)]) hx hb dX8_mostCases_85 hl (by decide) rfl (fun ls hl => ?_)
              refine lv_iload hx hb dX8_mostCases_87 (lv_at hl 0 rfl) ?_
              refine lv_iload hx hb dX8_mostCases_89 (lv_at hl 2 rfl) ?_
              refine lv_icmp_le (tgt := 99) hx hb dX8_mostCases_91 (by decide) (fun c_20 => ?_) (fun c_20 => ?_)
              · have fc_20 : r_17.toInt ≤ v_8.toInt := zf_le c_20 rfl rfl
                refine lv_iload hx hb dX8_mostCases_99 (lv_at hl 2 rfl) ?_
                refine lv_istore (lv' := [(5, .int v_8), (7, .int r_17), (6, .int i_35), (0, .ref m0), (1, .int 2), (2, .int d), (3, .int sec), (4, .int wh)]) hx hb dX8_mostCases_101 hl (by decide) rfl (fun ls hl => ?_)
                obtain ⟨x_21, ex_21⟩ : ∃ y : Int32, y = i_35 + 1 := ⟨_, rfl⟩
                have qx_21 : x_21.toInt = i_35.toInt + 1 := dw_inc ex_21 fc_10
                refine lv_iinc (v := x_21) (lv' := [(6, .int x_21), (5, .int v_8), (7, .int r_17), (0, .ref m0), (1, .int 2), (2, .int d), (3, .int sec), (4, .int wh)]) hx hb dX8_mostCases_103 hl (k := 2) rfl ex_21.symm (by decide) rfl (fun ls hl => ?_)
                refine lv_goto (tgt := 35) hx hb dX8_mostCases_106 (by decide) ?_
                exact ih x_21 v_8 _ (lv_sub hl [0, 1, 3, 4, 5, 6, 7] rfl) hbv_8 (show (v_8 : Int32).toInt = zFo gki gta (if wh.toInt = 0 then 1 else 0) d.toInt sec.toInt (12 * (zM gki gpa gta npu.toInt.toNat nhu.toInt (if wh.toInt = 0 then 1 else 0) 1) d.toInt sec.toInt) (zBy (zM gki gpa gta npu.toInt.toNat nhu.toInt (if wh.toInt = 0 then 1 else 0) 1) gki gpa gta nhu.toInt d.toInt sec.toInt) x_21.toInt.toNat from by (have hx : x_21.toInt.toNat = i_35.toInt.toNat + 1 := (by omega); have y9 : i_35.toNatClampNeg = i_35.toInt.toNat := rfl; have hm := hsr_11_0; rw [y9] at hm; have ok : zOk gki gta (if wh.toInt = 0 then 1 else 0) d.toInt sec.toInt i_35.toInt.toNat := ⟨(hm.mp (by omega)).1, (hm.mp (by omega)).2, (by first | exact Or.inl (by rw [if_pos (by omega)]; decide) | exact Or.inr (by omega))⟩; rw [hx, zFo_y ok, ← hvi_35_0]; have zr := hsr_17_0; rw [y9] at zr; have zr2 : r_17.toInt = (zBy (zM gki gpa gta npu.toInt.toNat nhu.toInt (if wh.toInt = 0 then 1 else 0) 1) gki gpa gta nhu.toInt d.toInt sec.toInt) i_35.toInt.toNat := zr; omega)) (show x_21.toInt ≤ npu.toInt from by omega) (dw_lo hloi_35 qx_21) (dw_hn hni_35 qx_21)
              · have fc_20 : v_8.toInt < r_17.toInt := zf_nle c_20 rfl rfl
                refine lv_iload hx hb dX8_mostCases_94 (lv_at hl 0 rfl) ?_
                refine lv_goto (tgt := 101) hx hb dX8_mostCases_96 (by decide) ?_
                refine lv_istore (lv' := [(5, .int r_17), (7, .int r_17), (6, .int i_35), (0, .ref m0), (1, .int 2), (2, .int d), (3, .int sec), (4, .int wh)]) hx hb dX8_mostCases_101 hl (by decide) rfl (fun ls hl => ?_)
                obtain ⟨x_22, ex_22⟩ : ∃ y : Int32, y = i_35 + 1 := ⟨_, rfl⟩
                have qx_22 : x_22.toInt = i_35.toInt + 1 := dw_inc ex_22 fc_10
                refine lv_iinc (v := x_22) (lv' := [(6, .int x_22), (5, .int r_17), (7, .int r_17), (0, .ref m0), (1, .int 2), (2, .int d), (3, .int sec), (4, .int wh)]) hx hb dX8_mostCases_103 hl (k := 2) rfl ex_22.symm (by decide) rfl (fun ls hl => ?_)
                refine lv_goto (tgt := 35) hx hb dX8_mostCases_106 (by decide) ?_
                exact ih x_22 r_17 _ (lv_sub hl [0, 1, 3, 4, 5, 6, 7] rfl) ⟨by omega, by omega⟩ (show (r_17 : Int32).toInt = zFo gki gta (if wh.toInt = 0 then 1 else 0) d.toInt sec.toInt (12 * (zM gki gpa gta npu.toInt.toNat nhu.toInt (if wh.toInt = 0 then 1 else 0) 1) d.toInt sec.toInt) (zBy (zM gki gpa gta npu.toInt.toNat nhu.toInt (if wh.toInt = 0 then 1 else 0) 1) gki gpa gta nhu.toInt d.toInt sec.toInt) x_22.toInt.toNat from by (have hx : x_22.toInt.toNat = i_35.toInt.toNat + 1 := (by omega); have y9 : i_35.toNatClampNeg = i_35.toInt.toNat := rfl; have hm := hsr_11_0; rw [y9] at hm; have ok : zOk gki gta (if wh.toInt = 0 then 1 else 0) d.toInt sec.toInt i_35.toInt.toNat := ⟨(hm.mp (by omega)).1, (hm.mp (by omega)).2, (by first | exact Or.inl (by rw [if_pos (by omega)]; decide) | exact Or.inr (by omega))⟩; rw [hx, zFo_y ok, ← hvi_35_0]; have zr := hsr_17_0; rw [y9] at zr; have zr2 : r_17.toInt = (zBy (zM gki gpa gta npu.toInt.toNat nhu.toInt (if wh.toInt = 0 then 1 else 0) 1) gki gpa gta nhu.toInt d.toInt sec.toInt) i_35.toInt.toNat := zr; omega)) (show x_22.toInt ≤ npu.toInt from by omega) (dw_lo hloi_35 qx_22) (dw_hn hni_35 qx_22)
            · have fc_16 : wh.toInt ≠ 0 := zf_ne c_16 rfl (by decide)
              refine lv_aload_n hx hb dX8_mostCases_60 rfl (lv_at hl 2 rfl) ?_
              refine va_get (D := D) (ci := 8) (v := .ref mki) (C := RX8) (T := TX8) (N := 38) hx hb hts hi_X8_mostCases_8 hown hK hP 0 rfl rfl 11 (by decide) (hts (.fieldLink RX8 29 "TheLiningsInItModel" "kind" "[I") (List.mem_of_getElem? (i := 2) rfl)) (fun _ h9 => h9) rfl dX8_mostCases_61 ?_
              refine lv_iload hx hb dX8_mostCases_64 (lv_at hl 0 rfl) ?_
              refine va_iald hx hb hK hP 1 0 rfl rfl (zf_in (by omega) (by omega)) dX8_mostCases_66 ?_
              refine lv_topi (fun x_23 ex_23 => ?_)
              have bx_23 : 0 ≤ x_23.toInt ∧ x_23.toInt ≤ 6 := by rw [ex_23]; exact hp_gki _
              refine lv_iconst (v := 5) hx hb dX8_mostCases_67 (by decide) ?_
              refine lv_icmp_ne (tgt := 74) hx hb dX8_mostCases_68 (by decide) (fun c_24 => ?_) (fun c_24 => ?_)
              · have fc_24 : x_23.toInt ≠ 5 := zf_ne c_24 rfl (by decide)
                have htl9 : (gta i_35.toNatClampNeg).toInt ≤ sec.toInt := (hsr_11_0.mp (by omega)).2
                refine lv_aload_n hx hb dX8_mostCases_74 rfl (lv_at hl 2 rfl) ?_
                refine lv_iload hx hb dX8_mostCases_75 (lv_at hl 0 rfl) ?_
                refine lv_iload_n hx hb dX8_mostCases_77 rfl (lv_at hl 3 rfl) ?_
                refine lv_iload_n hx hb dX8_mostCases_78 rfl (lv_at hl 4 rfl) ?_
                refine lv_iload_n hx hb dX8_mostCases_79 rfl (lv_at hl 5 rfl) ?_
                refine lv_iload hx hb dX8_mostCases_80 (lv_at hl 6 rfl) ?_
                refine zc_V (As := [.int i_35, .int 2, .int d, .int sec, .int wh]) (rest := []) ⟨hx, hb, hml, hown, hts⟩ (c_F_M_casesBy_2 l D cI cJ cZ cP cS po m0 mrf mki mpa mta mla msl mco mhe mso msi msh mce mca mwo mnu mte mwa mke mma mth mtr (npu) (nte) (nat_) (nde) (nto) (nse) (nhu) (nga) (nsd) (nfa) (nba) (npl) (nen) (nnu) (nwr) (nra) (nik) gki gpa gta (i_35) (d) (sec) (wh) hy0 hy1 hy2 hy3 hy4 hy5 hy6 hy7 hy8 hy9 hy10 hy11 hy12 hy13 (by omega) (by omega) hy14 hy15 hy16 hy17 hy18 hy19 (by first | assumption | omega) hp_gki hp_gpa hp_gta) (cwV 5 hts gX8_mostCases_X8_casesBy rfl rfl rfl ⟨rfl, dh_X8_casesBy⟩ ⟨Nat.le_of_ble_eq_true rfl, Nat.le_of_ble_eq_true rfl⟩) hK hN hZ hP (hP.sub [0, 1, 2, 3] rfl) (va_recv (q := (RX8, TX8, 38)) hK hP (ci := 8) (q0 := 0) rfl rfl) rfl hl.1 rfl (Nat.le_of_ble_eq_true rfl) dX8_mostCases_82 ⟨Nat.le_of_ble_eq_true rfl, Nat.le_of_ble_eq_true rfl⟩ (fun r_25 hr_25 => ?_)
                obtain ⟨g_26, g_27, hsr_25_0⟩ := hr_25
                refine lv_istore (lv' := [(7, .int r_25), (6, .int i_35), (5, .int v_8), (0, .ref m0), (1, .int 2), (2, .int d), (3, .int sec), (4, .int wh)]) hx hb dX8_mostCases_85 hl (by decide) rfl (fun ls hl => ?_)
                refine lv_iload hx hb dX8_mostCases_87 (lv_at hl 0 rfl) ?_
                refine lv_iload hx hb dX8_mostCases_89 (lv_at hl 2 rfl) ?_
                refine lv_icmp_le (tgt := 99) hx hb dX8_mostCases_91 (by decide) (fun c_28 => ?_) (fun c_28 => ?_)
                · have fc_28 : r_25.toInt ≤ v_8.toInt := zf_le c_28 rfl rfl
                  refine lv_iload hx hb dX8_mostCases_99 (lv_at hl 2 rfl) ?_
                  refine lv_istore (lv' := [(5, .int v_8), (7, .int r_25), (6, .int i_35), (0, .ref m0), (1, .int 2), (2, .int d), (3, .int sec), (4, .int wh)]) hx hb dX8_mostCases_101 hl (by decide) rfl (fun ls hl => ?_)
                  obtain ⟨x_29, ex_29⟩ : ∃ y : Int32, y = i_35 + 1 := ⟨_, rfl⟩
                  have qx_29 : x_29.toInt = i_35.toInt + 1 := dw_inc ex_29 fc_10
                  refine lv_iinc (v := x_29) (lv' := [(6, .int x_29), (5, .int v_8), (7, .int r_25), (0, .ref m0), (1, .int 2), (2, .int d), (3, .int sec), (4, .int wh)]) hx hb dX8_mostCases_103 hl (k := 2) rfl ex_29.symm (by decide) rfl (fun ls hl => ?_)
                  refine lv_goto (tgt := 35) hx hb dX8_mostCases_106 (by decide) ?_
                  exact ih x_29 v_8 _ (lv_sub hl [0, 1, 3, 4, 5, 6, 7] rfl) hbv_8 (show (v_8 : Int32).toInt = zFo gki gta (if wh.toInt = 0 then 1 else 0) d.toInt sec.toInt (12 * (zM gki gpa gta npu.toInt.toNat nhu.toInt (if wh.toInt = 0 then 1 else 0) 1) d.toInt sec.toInt) (zBy (zM gki gpa gta npu.toInt.toNat nhu.toInt (if wh.toInt = 0 then 1 else 0) 1) gki gpa gta nhu.toInt d.toInt sec.toInt) x_29.toInt.toNat from by (have hx : x_29.toInt.toNat = i_35.toInt.toNat + 1 := (by omega); have y9 : i_35.toNatClampNeg = i_35.toInt.toNat := rfl; have hm := hsr_11_0; rw [y9] at hm; have nk : (gki i_35.toInt.toNat).toInt = x_23.toInt := (by rw [ex_23]; rfl); have ok : zOk gki gta (if wh.toInt = 0 then 1 else 0) d.toInt sec.toInt i_35.toInt.toNat := ⟨(hm.mp (by omega)).1, (hm.mp (by omega)).2, (by first | exact Or.inl (by rw [if_pos (by omega)]; decide) | exact Or.inr (by omega))⟩; rw [hx, zFo_y ok, ← hvi_35_0]; have zr := hsr_25_0; rw [y9] at zr; have zr2 : r_25.toInt = (zBy (zM gki gpa gta npu.toInt.toNat nhu.toInt (if wh.toInt = 0 then 1 else 0) 1) gki gpa gta nhu.toInt d.toInt sec.toInt) i_35.toInt.toNat := zr; omega)) (show x_29.toInt ≤ npu.toInt from by omega) (dw_lo hloi_35 qx_29) (dw_hn hni_35 qx_29)
                · have fc_28 : v_8.toInt < r_25.toInt := zf_nle c_28 rfl rfl
                  refine lv_iload hx hb dX8_mostCases_94 (lv_at hl 0 rfl) ?_
                  refine lv_goto (tgt := 101) hx hb dX8_mostCases_96 (by decide) ?_
                  refine lv_istore (lv' := [(5, .int r_25), (7, .int r_25), (6, .int i_35), (0, .ref m0), (1, .int 2), (2, .int d), (3, .int sec), (4, .int wh)]) hx hb dX8_mostCases_101 hl (by decide) rfl (fun ls hl => ?_)
                  obtain ⟨x_30, ex_30⟩ : ∃ y : Int32, y = i_35 + 1 := ⟨_, rfl⟩
                  have qx_30 : x_30.toInt = i_35.toInt + 1 := dw_inc ex_30 fc_10
                  refine lv_iinc (v := x_30) (lv' := [(6, .int x_30), (5, .int r_25), (7, .int r_25), (0, .ref m0), (1, .int 2), (2, .int d), (3, .int sec), (4, .int wh)]) hx hb dX8_mostCases_103 hl (k := 2) rfl ex_30.symm (by decide) rfl (fun ls hl => ?_)
                  refine lv_goto (tgt := 35) hx hb dX8_mostCases_106 (by decide) ?_
                  exact ih x_30 r_25 _ (lv_sub hl [0, 1, 3, 4, 5, 6, 7] rfl) ⟨by omega, by omega⟩ (show (r_25 : Int32).toInt = zFo gki gta (if wh.toInt = 0 then 1 else 0) d.toInt sec.toInt (12 * (zM gki gpa gta npu.toInt.toNat nhu.toInt (if wh.toInt = 0 then 1 else 0) 1) d.toInt sec.toInt) (zBy (zM gki gpa gta npu.toInt.toNat nhu.toInt (if wh.toInt = 0 then 1 else 0) 1) gki gpa gta nhu.toInt d.toInt sec.toInt) x_30.toInt.toNat from by (have hx : x_30.toInt.toNat = i_35.toInt.toNat + 1 := (by omega); have y9 : i_35.toNatClampNeg = i_35.toInt.toNat := rfl; have hm := hsr_11_0; rw [y9] at hm; have nk : (gki i_35.toInt.toNat).toInt = x_23.toInt := (by rw [ex_23]; rfl); have ok : zOk gki gta (if wh.toInt = 0 then 1 else 0) d.toInt sec.toInt i_35.toInt.toNat := ⟨(hm.mp (by omega)).1, (hm.mp (by omega)).2, (by first | exact Or.inl (by rw [if_pos (by omega)]; decide) | exact Or.inr (by omega))⟩; rw [hx, zFo_y ok, ← hvi_35_0]; have zr := hsr_25_0; rw [y9] at zr; have zr2 : r_25.toInt = (zBy (zM gki gpa gta npu.toInt.toNat nhu.toInt (if wh.toInt = 0 then 1 else 0) 1) gki gpa gta nhu.toInt d.toInt sec.toInt) i_35.toInt.toNat := zr; omega)) (show x_30.toInt ≤ npu.toInt from by omega) (dw_lo hloi_35 qx_30) (dw_hn hni_35 qx_30)
              · have fc_24 : x_23.toInt = 5 := zf_eq c_24 rfl (by decide)
                refine lv_goto (tgt := 103) hx hb dX8_mostCases_71 (by decide) ?_
                obtain ⟨x_31, ex_31⟩ : ∃ y : Int32, y = i_35 + 1 := ⟨_, rfl⟩
                have qx_31 : x_31.toInt = i_35.toInt + 1 := dw_inc ex_31 fc_10
                refine lv_iinc (v := x_31) (lv' := [(6, .int x_31), (5, .int v_8), (0, .ref m0), (1, .int 2), (2, .int d), (3, .int sec), (4, .int wh)]) hx hb dX8_mostCases_103 hl (k := 0) rfl ex_31.symm (by decide) rfl (fun ls hl => ?_)
                refine lv_goto (tgt := 35) hx hb dX8_mostCases_106 (by decide) ?_
                exact ih x_31 v_8 _ (lv_sub hl [0, 1, 2, 3, 4, 5, 6] rfl) hbv_8 (show (v_8 : Int32).toInt = zFo gki gta (if wh.toInt = 0 then 1 else 0) d.toInt sec.toInt (12 * (zM gki gpa gta npu.toInt.toNat nhu.toInt (if wh.toInt = 0 then 1 else 0) 1) d.toInt sec.toInt) (zBy (zM gki gpa gta npu.toInt.toNat nhu.toInt (if wh.toInt = 0 then 1 else 0) 1) gki gpa gta nhu.toInt d.toInt sec.toInt) x_31.toInt.toNat from by (have hx : x_31.toInt.toNat = i_35.toInt.toNat + 1 := (by omega); have y9 : i_35.toNatClampNeg = i_35.toInt.toNat := rfl; have hm := hsr_11_0; rw [y9] at hm; have nk : (gki i_35.toInt.toNat).toInt = x_23.toInt := (by rw [ex_23]; rfl); have no : ¬ zOk gki gta (if wh.toInt = 0 then 1 else 0) d.toInt sec.toInt i_35.toInt.toNat := (fun z => by first | (have z1 := hm.mpr ⟨z.1, z.2.1⟩; omega) | (have z3 := z.2.2; rw [if_neg (by omega)] at z3; omega)); rw [hx, zFo_n no]; exact hvi_35_0)) (show x_31.toInt ≤ npu.toInt from by omega) (dw_lo hloi_35 qx_31) (dw_hn hni_35 qx_31)
    · exact absurd c_2 (by decide)
  · have fc_1 : d.toInt = 0 := zf_eq c_1 rfl (by decide)
    refine lv_aload_n hx hb dX8_mostCases_4 rfl (lv_at hl 0 rfl) ?_
    refine lv_iload_n hx hb dX8_mostCases_5 rfl (lv_at hl 1 rfl) ?_
    refine zc_V (As := [.int 2]) (rest := []) ⟨hx, hb, hml, hown, hts⟩ (c_M_power_2 l D cI cJ cZ cP cS po m0 mrf mki mpa mta mla msl mco mhe mso msi msh mce mca mwo mnu mte mwa mke mma mth mtr (npu) (nte) (nat_) (nde) (nto) (nse) (nhu) (nga) (nsd) (nfa) (nba) (npl) (nen) (nnu) (nwr) (nra) (nik) hy0 hy1 hy2 hy3 hy4 hy5 hy6 hy7 hy8 hy9 hy10 hy11 hy12 hy13) (cwV 1 hts gX8_mostCases_X8_power rfl rfl rfl ⟨rfl, dh_X8_power⟩ ⟨Nat.le_of_ble_eq_true rfl, Nat.le_of_ble_eq_true rfl⟩) hK hN hZ hP (hP.sub [0] rfl) (va_recv (q := (RX8, TX8, 38)) hK hP (ci := 8) (q0 := 0) rfl rfl) rfl hl.1 rfl (Nat.le_of_ble_eq_true rfl) dX8_mostCases_6 ⟨Nat.le_of_ble_eq_true rfl, Nat.le_of_ble_eq_true rfl⟩ (fun r_32 hr_32 => ?_)
    obtain rfl := hr_32
    exact W.iret (v := 144) hx hb hr (fun t ht hW => ⟨144, rfl, ⟨by decide, by decide, (show (144 : Int32).toInt = (zM gki gpa gta npu.toInt.toNat nhu.toInt (if wh.toInt = 0 then 1 else 0) 2) d.toInt sec.toInt from by (have k9 : (144 : Int32).toInt = 144 := (by decide); rw [zM_s, if_pos (by omega)]; rw [show zPw 2 = 144 from by decide]; omega))⟩, ht⟩) (fun q hq => by cases hq) dX8_mostCases_9
set_option maxHeartbeats 4000000 in
set_option maxRecDepth 100000 in
theorem c_F_M_casesBy_3 (l : Launch) (D : va_G) (cI cJ cZ cP cS : ClassId) (po : zPool) (m0 mrf mki mpa mta mla msl mco mhe mso msi msh mce mca mwo mnu mte mwa mke mma mth mtr : Nat) (npu nte nat_ nde nto nse nhu nga nsd nfa nba npl nen nnu nwr nra nik : Int32) (gki gpa gta : Nat → Int32) (p_ d sec wh : Int32) (hy0 : 0 ≤ npu.toInt) (hy1 : npu.toInt ≤ 8) (hy2 : 4 ≤ nte.toInt) (hy3 : nte.toInt ≤ 40) (hy4 : 0 ≤ nat_.toInt) (hy5 : nat_.toInt ≤ 40) (hy6 : 0 ≤ nde.toInt) (hy7 : nde.toInt ≤ 24) (hy8 : 0 ≤ nhu.toInt) (hy9 : nhu.toInt ≤ 9) (hy10 : 0 ≤ nra.toInt) (hy11 : nra.toInt ≤ 2000) (hy12 : 0 ≤ nik.toInt) (hy13 : nik.toInt ≤ 1) (hy14 : 0 ≤ p_.toInt) (hy15 : p_.toInt ≤ 7) (hy16 : 0 ≤ d.toInt) (hy17 : d.toInt ≤ 24) (hy18 : 0 ≤ sec.toInt) (hy19 : sec.toInt ≤ 300) (hy20 : 0 ≤ wh.toInt) (hy21 : wh.toInt ≤ 1) (htl : (gta p_.toNatClampNeg).toInt ≤ sec.toInt) (hp_gki : zRg gki (0) 6) (hp_gpa : zRg gpa (0) 9) (hp_gta : zRg gta (0) 60) : Met l yX8_casesBy wsX8_casesBy ({ frames := 6, cells := 0, slots := 0, locals := 156 }) (va_Pc [.ref m0, .int p_, .int 3, .int d, .int sec, .int wh] (zR D (zKT cI cJ cZ cP cS) po [(zMO m0 npu nte nat_ nde nto nse nhu nga nsd nfa mrf mki mpa mta mla msl mco mhe mso msi msh mce mca mwo mnu mte nba npl nen nnu nwr mwa mke mma mth mtr nra nik), (mki, .inl (cI, 8, .inl gki)), (mpa, .inl (cI, 8, .inl gpa)), (mta, .inl (cI, 8, .inl gta))])) (vp_Si (fun r => 0 ≤ r.toInt ∧ r.toInt ≤ 1728 ∧ (r.toInt = zBy1 (zM gki gpa gta npu.toInt.toNat nhu.toInt (if wh.toInt = 0 then 1 else 0) 2) (gki p_.toNatClampNeg).toInt (gpa p_.toNatClampNeg).toInt (gta p_.toNatClampNeg).toInt nhu.toInt d.toInt sec.toInt))) 0 0 (fun _ => False) := by
  refine Met.ofW (cc := cX8_casesBy) (maxL := 8) (ret := (some .int)) (by decide) rfl ?_
  intro p e s m args below meth c s₁ B hml hv
  obtain ⟨rfl, hP, hK, hN, hZ⟩ := hv
  have hx := B.exec
  have hb := B.bytes
  have hr := B.returns
  have hts := atoms_spec (ws := wsX8_casesBy) B.pre
  have hown : s.vm.findClass RX8 = some m.cls := findClass_of_methodNamed B.named
  have hlocks := B.notSynchronized
  have hl := lv_entry ([.ref m0, .int p_, .int 3, .int d, .int sec, .int wh]) (n := 8) (Nat.le_of_ble_eq_true rfl)
  rw [lg_entry_eq]
  generalize (lg_sl ([.ref m0, .int p_, .int 3, .int d, .int sec, .int wh]) ++ List.replicate (8 - (lg_sl ([.ref m0, .int p_, .int 3, .int d, .int sec, .int wh])).length) Slot.unset).toArray = ls at hl ⊢
  replace hl : lv_has ls 8 [(0, .ref m0), (1, .int p_), (2, .int 3), (3, .int d), (4, .int sec), (5, .int wh)] := hl
  refine lv_aload_n hx hb dX8_casesBy_0 rfl (lv_at hl 0 rfl) ?_
  refine lv_iload_n hx hb dX8_casesBy_1 rfl (lv_at hl 1 rfl) ?_
  refine lv_iload_n hx hb dX8_casesBy_2 rfl (lv_at hl 3 rfl) ?_
  refine zc_V (As := [.int p_, .int d]) (rest := []) ⟨hx, hb, hml, hown, hts⟩ (c_F_M_ways l D cI cJ cZ cP cS po m0 mrf mki mpa mta mla msl mco mhe mso msi msh mce mca mwo mnu mte mwa mke mma mth mtr (npu) (nte) (nat_) (nde) (nto) (nse) (nhu) (nga) (nsd) (nfa) (nba) (npl) (nen) (nnu) (nwr) (nra) (nik) gki gpa (p_) (d) hy0 hy1 hy2 hy3 hy4 hy5 hy6 hy7 hy8 hy9 hy10 hy11 hy12 hy13 hy14 hy15 hy16 hy17 hp_gki hp_gpa) (cwV 2 hts gX8_casesBy_X8_ways rfl rfl rfl ⟨rfl, dh_X8_ways⟩ ⟨Nat.le_of_ble_eq_true rfl, Nat.le_of_ble_eq_true rfl⟩) hK hN hZ hP (hP.sub [0, 1, 2] rfl) (va_recv (q := (RX8, TX8, 38)) hK hP (ci := 8) (q0 := 0) rfl rfl) rfl hl.1 rfl (Nat.le_of_ble_eq_true rfl) dX8_casesBy_3 ⟨Nat.le_of_ble_eq_true rfl, Nat.le_of_ble_eq_true rfl⟩ (fun r_1 hr_1 => ?_)
  obtain ⟨g_2, g_3, hsr_1_0⟩ := hr_1
  refine lv_istore (lv' := [(6, .int r_1), (0, .ref m0), (1, .int p_), (2, .int 3), (3, .int d), (4, .int sec), (5, .int wh)]) hx hb dX8_casesBy_6 hl (by decide) rfl (fun ls hl => ?_)
  refine lv_iload hx hb dX8_casesBy_8 (lv_at hl 0 rfl) ?_
  refine lv_if_ne (tgt := 17) hx hb dX8_casesBy_10 (by decide) (fun c_4 => ?_) (fun c_4 => ?_)
  · have fc_4 : r_1.toInt ≠ 0 := zf_ne c_4 rfl (by decide)
    refine lv_iload hx hb dX8_casesBy_17 (lv_at hl 0 rfl) ?_
    refine lv_aload_n hx hb dX8_casesBy_19 rfl (lv_at hl 1 rfl) ?_
    refine lv_iload_n hx hb dX8_casesBy_20 rfl (lv_at hl 3 rfl) ?_
    refine lv_iconst (v := 1) hx hb dX8_casesBy_21 (by decide) ?_
    refine lv_isub hx hb dX8_casesBy_22 ?_
    refine lv_topi (fun y_5 ey_5 => ?_)
    obtain rfl : y_5 = 2 := ey_5.trans (by decide)
    refine lv_aload_n hx hb dX8_casesBy_23 rfl (lv_at hl 1 rfl) ?_
    refine lv_iload_n hx hb dX8_casesBy_24 rfl (lv_at hl 2 rfl) ?_
    refine lv_iload_n hx hb dX8_casesBy_25 rfl (lv_at hl 4 rfl) ?_
    refine lv_iconst (v := 1) hx hb dX8_casesBy_26 (by decide) ?_
    have kc1 : (1 : Int32).toInt = 1 := by decide
    refine zc_V (As := [.int p_, .int d, .int 1]) (rest := [.int 2, .ref m0, .int r_1]) ⟨hx, hb, hml, hown, hts⟩ (c_F_M_deep l D cI cJ cZ cP cS po m0 mrf mki mpa mta mla msl mco mhe mso msi msh mce mca mwo mnu mte mwa mke mma mth mtr (npu) (nte) (nat_) (nde) (nto) (nse) (nhu) (nga) (nsd) (nfa) (nba) (npl) (nen) (nnu) (nwr) (nra) (nik) gki gpa (p_) (d) (1) hy0 hy1 hy2 hy3 hy4 hy5 hy6 hy7 hy8 hy9 hy10 hy11 hy12 hy13 hy14 hy15 hy16 hy17 (by omega) (by omega) hp_gki hp_gpa) (cwV 3 hts gX8_casesBy_X8_deep rfl rfl rfl ⟨rfl, dh_X8_deep⟩ ⟨Nat.le_of_ble_eq_true rfl, Nat.le_of_ble_eq_true rfl⟩) hK hN hZ hP (hP.sub [0, 1, 2] rfl) (va_recv (q := (RX8, TX8, 38)) hK hP (ci := 8) (q0 := 0) rfl rfl) rfl hl.1 rfl (Nat.le_of_ble_eq_true rfl) dX8_casesBy_27 ⟨Nat.le_of_ble_eq_true rfl, Nat.le_of_ble_eq_true rfl⟩ (fun r_6 hr_6 => ?_)
    obtain ⟨g_7, g_8, hsr_6_0⟩ := hr_6
    refine lv_iload hx hb dX8_casesBy_30 (lv_at hl 5 rfl) ?_
    refine lv_aload_n hx hb dX8_casesBy_32 rfl (lv_at hl 1 rfl) ?_
    refine va_get (D := D) (ci := 8) (v := .ref mta) (C := RX8) (T := TX8) (N := 38) hx hb hts hi_X8_casesBy_8 hown hK hP 0 rfl rfl 13 (by decide) (hts (.fieldLink RX8 35 "TheLiningsInItModel" "takes" "[I") (List.mem_of_getElem? (i := 1) rfl)) (fun _ h9 => h9) rfl dX8_casesBy_33 ?_
    refine lv_iload_n hx hb dX8_casesBy_36 rfl (lv_at hl 2 rfl) ?_
    refine va_iald hx hb hK hP 3 0 rfl rfl (zf_in (by omega) (by omega)) dX8_casesBy_37 ?_
    refine lv_topi (fun x_9 ex_9 => ?_)
    have bx_9 : 0 ≤ x_9.toInt ∧ x_9.toInt ≤ 60 := by rw [ex_9]; exact hp_gta _
    have htx_9 : x_9.toInt ≤ sec.toInt := by (rw [ex_9]; exact htl)
    refine lv_isub hx hb dX8_casesBy_38 ?_
    refine lv_topi (fun x_10 ex_10 => ?_)
    have qx_10 : x_10.toInt = sec.toInt - x_9.toInt := by rw [ex_10]; exact zf_sub rfl rfl (by omega) (by omega)
    refine lv_iload hx hb dX8_casesBy_39 (lv_at hl 6 rfl) ?_
    refine zc_V (As := [.int 2, .int r_6, .int x_10, .int wh]) (rest := [.int r_1]) ⟨hx, hb, hml, hown, hts⟩ (c_F_M_mostCases_2 l D cI cJ cZ cP cS po m0 mrf mki mpa mta mla msl mco mhe mso msi msh mce mca mwo mnu mte mwa mke mma mth mtr (npu) (nte) (nat_) (nde) (nto) (nse) (nhu) (nga) (nsd) (nfa) (nba) (npl) (nen) (nnu) (nwr) (nra) (nik) gki gpa gta (r_6) (x_10) (wh) hy0 hy1 hy2 hy3 hy4 hy5 hy6 hy7 hy8 hy9 hy10 hy11 hy12 hy13 (by omega) (by omega) (by omega) (by omega) hy20 hy21 hp_gki hp_gpa hp_gta) (cwV 4 hts gX8_casesBy_X8_mostCases rfl rfl rfl ⟨rfl, dh_X8_mostCases⟩ ⟨Nat.le_of_ble_eq_true rfl, Nat.le_of_ble_eq_true rfl⟩) hK hN hZ hP (hP.sub [0, 1, 2, 3] rfl) (va_recv (q := (RX8, TX8, 38)) hK hP (ci := 8) (q0 := 0) rfl rfl) rfl hl.1 rfl (Nat.le_of_ble_eq_true rfl) dX8_casesBy_41 ⟨Nat.le_of_ble_eq_true rfl, Nat.le_of_ble_eq_true rfl⟩ (fun r_11 hr_11 => ?_)
    obtain ⟨g_12, g_13, hsr_11_0⟩ := hr_11
    refine lv_imul hx hb dX8_casesBy_44 ?_
    refine lv_topi (fun x_14 ex_14 => ?_)
    obtain ⟨mx_14, nx_14, ox_14⟩ := zf_mulc (a := r_1) (b := r_11) (x := r_1.toInt) (y := r_11.toInt) (P := 144) rfl rfl ⟨by omega, by omega⟩ ⟨by omega, by omega⟩ (by decide)
    rw [← ex_14] at mx_14
    refine lv_istore (lv' := [(7, .int x_14), (6, .int r_1), (0, .ref m0), (1, .int p_), (2, .int 3), (3, .int d), (4, .int sec), (5, .int wh)]) hx hb dX8_casesBy_45 hl (by decide) rfl (fun ls hl => ?_)
    refine lv_iload hx hb dX8_casesBy_47 (lv_at hl 1 rfl) ?_
    refine lv_bipush (v := 12) hx hb dX8_casesBy_49 (by decide) ?_
    refine lv_icmp_ne (tgt := 59) hx hb dX8_casesBy_51 (by decide) (fun c_15 => ?_) (fun c_15 => ?_)
    · have fc_15 : r_1.toInt ≠ 12 := zf_ne c_15 rfl (by decide)
      refine lv_iload hx hb dX8_casesBy_59 (lv_at hl 0 rfl) ?_
      refine lv_bipush (v := 12) hx hb dX8_casesBy_61 (by decide) ?_
      refine lv_iload hx hb dX8_casesBy_63 (lv_at hl 1 rfl) ?_
      refine lv_isub hx hb dX8_casesBy_65 ?_
      refine lv_topi (fun x_16 ex_16 => ?_)
      have qx_16 : x_16.toInt = 12 - r_1.toInt := by rw [ex_16]; exact zf_sub (by decide) rfl (by omega) (by omega)
      refine lv_aload_n hx hb dX8_casesBy_66 rfl (lv_at hl 2 rfl) ?_
      refine lv_iload_n hx hb dX8_casesBy_67 rfl (lv_at hl 4 rfl) ?_
      refine lv_iconst (v := 1) hx hb dX8_casesBy_68 (by decide) ?_
      refine lv_isub hx hb dX8_casesBy_69 ?_
      refine lv_topi (fun y_17 ey_17 => ?_)
      obtain rfl : y_17 = 2 := ey_17.trans (by decide)
      refine lv_aload_n hx hb dX8_casesBy_70 rfl (lv_at hl 2 rfl) ?_
      refine lv_iload_n hx hb dX8_casesBy_71 rfl (lv_at hl 3 rfl) ?_
      refine lv_iload_n hx hb dX8_casesBy_72 rfl (lv_at hl 5 rfl) ?_
      refine lv_iconst (v := 0) hx hb dX8_casesBy_73 (by decide) ?_
      have kc0 : (0 : Int32).toInt = 0 := by decide
      refine zc_V (As := [.int p_, .int d, .int 0]) (rest := [.int 2, .ref m0, .int x_16, .int x_14]) ⟨hx, hb, hml, hown, hts⟩ (c_F_M_deep l D cI cJ cZ cP cS po m0 mrf mki mpa mta mla msl mco mhe mso msi msh mce mca mwo mnu mte mwa mke mma mth mtr (npu) (nte) (nat_) (nde) (nto) (nse) (nhu) (nga) (nsd) (nfa) (nba) (npl) (nen) (nnu) (nwr) (nra) (nik) gki gpa (p_) (d) (0) hy0 hy1 hy2 hy3 hy4 hy5 hy6 hy7 hy8 hy9 hy10 hy11 hy12 hy13 hy14 hy15 hy16 hy17 (by omega) (by omega) hp_gki hp_gpa) (cwV 3 hts gX8_casesBy_X8_deep rfl rfl rfl ⟨rfl, dh_X8_deep⟩ ⟨Nat.le_of_ble_eq_true rfl, Nat.le_of_ble_eq_true rfl⟩) hK hN hZ hP (hP.sub [0, 1, 2] rfl) (va_recv (q := (RX8, TX8, 38)) hK hP (ci := 8) (q0 := 0) rfl rfl) rfl hl.1 rfl (Nat.le_of_ble_eq_true rfl) dX8_casesBy_74 ⟨Nat.le_of_ble_eq_true rfl, Nat.le_of_ble_eq_true rfl⟩ (fun r_18 hr_18 => ?_)
      obtain ⟨g_19, g_20, hsr_18_0⟩ := hr_18
      refine lv_iload hx hb dX8_casesBy_77 (lv_at hl 6 rfl) ?_
      refine lv_aload_n hx hb dX8_casesBy_79 rfl (lv_at hl 2 rfl) ?_
      refine va_get (D := D) (ci := 8) (v := .ref mta) (C := RX8) (T := TX8) (N := 38) hx hb hts hi_X8_casesBy_8 hown hK hP 0 rfl rfl 13 (by decide) (hts (.fieldLink RX8 35 "TheLiningsInItModel" "takes" "[I") (List.mem_of_getElem? (i := 1) rfl)) (fun _ h9 => h9) rfl dX8_casesBy_80 ?_
      refine lv_iload_n hx hb dX8_casesBy_83 rfl (lv_at hl 3 rfl) ?_
      refine va_iald hx hb hK hP 3 0 rfl rfl (zf_in (by omega) (by omega)) dX8_casesBy_84 ?_
      refine lv_topi (fun y_21 ey_21 => ?_)
      obtain rfl : x_9 = y_21 := ex_9.trans ey_21.symm
      refine lv_isub hx hb dX8_casesBy_85 ?_
      refine lv_topi (fun y_22 ey_22 => ?_)
      obtain rfl : x_10 = y_22 := ex_10.trans ey_22.symm
      refine lv_iload hx hb dX8_casesBy_86 (lv_at hl 7 rfl) ?_
      refine zc_V (As := [.int 2, .int r_18, .int x_10, .int wh]) (rest := [.int x_16, .int x_14]) ⟨hx, hb, hml, hown, hts⟩ (c_F_M_mostCases_2 l D cI cJ cZ cP cS po m0 mrf mki mpa mta mla msl mco mhe mso msi msh mce mca mwo mnu mte mwa mke mma mth mtr (npu) (nte) (nat_) (nde) (nto) (nse) (nhu) (nga) (nsd) (nfa) (nba) (npl) (nen) (nnu) (nwr) (nra) (nik) gki gpa gta (r_18) (x_10) (wh) hy0 hy1 hy2 hy3 hy4 hy5 hy6 hy7 hy8 hy9 hy10 hy11 hy12 hy13 (by omega) (by omega) (by omega) (by omega) hy20 hy21 hp_gki hp_gpa hp_gta) (cwV 4 hts gX8_casesBy_X8_mostCases rfl rfl rfl ⟨rfl, dh_X8_mostCases⟩ ⟨Nat.le_of_ble_eq_true rfl, Nat.le_of_ble_eq_true rfl⟩) hK hN hZ hP (hP.sub [0, 1, 2, 3] rfl) (va_recv (q := (RX8, TX8, 38)) hK hP (ci := 8) (q0 := 0) rfl rfl) rfl hl.1 rfl (Nat.le_of_ble_eq_true rfl) dX8_casesBy_88 ⟨Nat.le_of_ble_eq_true rfl, Nat.le_of_ble_eq_true rfl⟩ (fun r_23 hr_23 => ?_)
      obtain ⟨g_24, g_25, hsr_23_0⟩ := hr_23
      refine lv_imul hx hb dX8_casesBy_91 ?_
      refine lv_topi (fun x_26 ex_26 => ?_)
      obtain ⟨mx_26, nx_26, ox_26⟩ := zf_mulc (a := x_16) (b := r_23) (x := x_16.toInt) (y := r_23.toInt) (P := 144) rfl rfl ⟨by omega, by omega⟩ ⟨by omega, by omega⟩ (by decide)
      rw [← ex_26] at mx_26
      refine lv_iadd hx hb dX8_casesBy_92 ?_
      refine lv_topi (fun x_27 ex_27 => ?_)
      have qx_27 : x_27.toInt = x_14.toInt + x_26.toInt := by rw [ex_27]; exact zf_add rfl rfl (by omega) (by omega)
      have hmx9 := zMix (w := r_1.toInt) (x := r_11.toInt) (y := r_23.toInt) (P := 144) ⟨by omega, by omega⟩ ⟨by omega, by omega⟩ ⟨by omega, by omega⟩
      rw [show 12 - r_1.toInt = x_16.toInt from by omega] at hmx9
      exact W.iret (v := x_27) hx hb hr (fun t ht hW => ⟨x_27, rfl, ⟨by omega, by omega, (show (x_27 : Int32).toInt = zBy1 (zM gki gpa gta npu.toInt.toNat nhu.toInt (if wh.toInt = 0 then 1 else 0) 2) (gki p_.toNatClampNeg).toInt (gpa p_.toNatClampNeg).toInt (gta p_.toNatClampNeg).toInt nhu.toInt d.toInt sec.toInt from by (have zw := hsr_1_0; have E1 : r_1.toInt * (zM gki gpa gta npu.toInt.toNat nhu.toInt (if wh.toInt = 0 then 1 else 0) 2) (zShl (gki p_.toNatClampNeg).toInt (gpa p_.toNatClampNeg).toInt d.toInt) (sec.toInt - (gta p_.toNatClampNeg).toInt) = x_14.toInt := (by rw [← hsr_6_0.1 (by decide), show sec.toInt - (gta p_.toNatClampNeg).toInt = (x_10 : Int32).toInt from by (have z : (gta p_.toNatClampNeg).toInt = x_9.toInt := (by rw [ex_9]); omega), ← hsr_11_0]; omega); have E2 : (12 - r_1.toInt) * (zM gki gpa gta npu.toInt.toNat nhu.toInt (if wh.toInt = 0 then 1 else 0) 2) (zDpr (gki p_.toNatClampNeg).toInt (gpa p_.toNatClampNeg).toInt nhu.toInt d.toInt) (sec.toInt - (gta p_.toNatClampNeg).toInt) = x_26.toInt := (by rw [← hsr_18_0.2 (by decide), show sec.toInt - (gta p_.toNatClampNeg).toInt = (x_10 : Int32).toInt from by (have z : (gta p_.toNatClampNeg).toInt = x_9.toInt := (by rw [ex_9]); omega), ← hsr_23_0, show 12 - r_1.toInt = x_16.toInt from by omega]; omega); unfold zBy1; rw [← zw, E1, E2]; omega))⟩, ht⟩) (fun q hq => by cases hq) dX8_casesBy_93
    · have fc_15 : r_1.toInt = 12 := zf_eq c_15 rfl (by decide)
      refine lv_iload hx hb dX8_casesBy_54 (lv_at hl 0 rfl) ?_
      refine lv_goto (tgt := 93) hx hb dX8_casesBy_56 (by decide) ?_
      exact W.iret (v := x_14) hx hb hr (fun t ht hW => ⟨x_14, rfl, ⟨by omega, by omega, (show (x_14 : Int32).toInt = zBy1 (zM gki gpa gta npu.toInt.toNat nhu.toInt (if wh.toInt = 0 then 1 else 0) 2) (gki p_.toNatClampNeg).toInt (gpa p_.toNatClampNeg).toInt (gta p_.toNatClampNeg).toInt nhu.toInt d.toInt sec.toInt from by (have zw := hsr_1_0; have E1 : r_1.toInt * (zM gki gpa gta npu.toInt.toNat nhu.toInt (if wh.toInt = 0 then 1 else 0) 2) (zShl (gki p_.toNatClampNeg).toInt (gpa p_.toNatClampNeg).toInt d.toInt) (sec.toInt - (gta p_.toNatClampNeg).toInt) = x_14.toInt := (by rw [← hsr_6_0.1 (by decide), show sec.toInt - (gta p_.toNatClampNeg).toInt = (x_10 : Int32).toInt from by (have z : (gta p_.toNatClampNeg).toInt = x_9.toInt := (by rw [ex_9]); omega), ← hsr_11_0]; omega); have E2 : (12 - r_1.toInt) * (zM gki gpa gta npu.toInt.toNat nhu.toInt (if wh.toInt = 0 then 1 else 0) 2) (zDpr (gki p_.toNatClampNeg).toInt (gpa p_.toNatClampNeg).toInt nhu.toInt d.toInt) (sec.toInt - (gta p_.toNatClampNeg).toInt) = 0 := (by rw [show 12 - r_1.toInt = 0 from by omega, Int.zero_mul]); unfold zBy1; rw [← zw, E1, E2]; omega))⟩, ht⟩) (fun q hq => by cases hq) dX8_casesBy_93
  · have fc_4 : r_1.toInt = 0 := zf_eq c_4 rfl (by decide)
    refine lv_iconst (v := 0) hx hb dX8_casesBy_13 (by decide) ?_
    refine lv_goto (tgt := 45) hx hb dX8_casesBy_14 (by decide) ?_
    refine lv_istore (lv' := [(7, .int 0), (6, .int r_1), (0, .ref m0), (1, .int p_), (2, .int 3), (3, .int d), (4, .int sec), (5, .int wh)]) hx hb dX8_casesBy_45 hl (by decide) rfl (fun ls hl => ?_)
    refine lv_iload hx hb dX8_casesBy_47 (lv_at hl 1 rfl) ?_
    refine lv_bipush (v := 12) hx hb dX8_casesBy_49 (by decide) ?_
    refine lv_icmp_ne (tgt := 59) hx hb dX8_casesBy_51 (by decide) (fun c_28 => ?_) (fun c_28 => ?_)
    · have fc_28 : r_1.toInt ≠ 12 := zf_ne c_28 rfl (by decide)
      refine lv_iload hx hb dX8_casesBy_59 (lv_at hl 0 rfl) ?_
      refine lv_bipush (v := 12) hx hb dX8_casesBy_61 (by decide) ?_
      refine lv_iload hx hb dX8_casesBy_63 (lv_at hl 1 rfl) ?_
      refine lv_isub hx hb dX8_casesBy_65 ?_
      refine lv_topi (fun x_29 ex_29 => ?_)
      have qx_29 : x_29.toInt = 12 - r_1.toInt := by rw [ex_29]; exact zf_sub (by decide) rfl (by omega) (by omega)
      refine lv_aload_n hx hb dX8_casesBy_66 rfl (lv_at hl 2 rfl) ?_
      refine lv_iload_n hx hb dX8_casesBy_67 rfl (lv_at hl 4 rfl) ?_
      refine lv_iconst (v := 1) hx hb dX8_casesBy_68 (by decide) ?_
      refine lv_isub hx hb dX8_casesBy_69 ?_
      refine lv_topi (fun y_30 ey_30 => ?_)
      obtain rfl : y_30 = 2 := ey_30.trans (by decide)
      refine lv_aload_n hx hb dX8_casesBy_70 rfl (lv_at hl 2 rfl) ?_
      refine lv_iload_n hx hb dX8_casesBy_71 rfl (lv_at hl 3 rfl) ?_
      refine lv_iload_n hx hb dX8_casesBy_72 rfl (lv_at hl 5 rfl) ?_
      refine lv_iconst (v := 0) hx hb dX8_casesBy_73 (by decide) ?_
      have kc0 : (0 : Int32).toInt = 0 := by decide
      refine zc_V (As := [.int p_, .int d, .int 0]) (rest := [.int 2, .ref m0, .int x_29, .int 0]) ⟨hx, hb, hml, hown, hts⟩ (c_F_M_deep l D cI cJ cZ cP cS po m0 mrf mki mpa mta mla msl mco mhe mso msi msh mce mca mwo mnu mte mwa mke mma mth mtr (npu) (nte) (nat_) (nde) (nto) (nse) (nhu) (nga) (nsd) (nfa) (nba) (npl) (nen) (nnu) (nwr) (nra) (nik) gki gpa (p_) (d) (0) hy0 hy1 hy2 hy3 hy4 hy5 hy6 hy7 hy8 hy9 hy10 hy11 hy12 hy13 hy14 hy15 hy16 hy17 (by omega) (by omega) hp_gki hp_gpa) (cwV 3 hts gX8_casesBy_X8_deep rfl rfl rfl ⟨rfl, dh_X8_deep⟩ ⟨Nat.le_of_ble_eq_true rfl, Nat.le_of_ble_eq_true rfl⟩) hK hN hZ hP (hP.sub [0, 1, 2] rfl) (va_recv (q := (RX8, TX8, 38)) hK hP (ci := 8) (q0 := 0) rfl rfl) rfl hl.1 rfl (Nat.le_of_ble_eq_true rfl) dX8_casesBy_74 ⟨Nat.le_of_ble_eq_true rfl, Nat.le_of_ble_eq_true rfl⟩ (fun r_31 hr_31 => ?_)
      obtain ⟨g_32, g_33, hsr_31_0⟩ := hr_31
      refine lv_iload hx hb dX8_casesBy_77 (lv_at hl 6 rfl) ?_
      refine lv_aload_n hx hb dX8_casesBy_79 rfl (lv_at hl 2 rfl) ?_
      refine va_get (D := D) (ci := 8) (v := .ref mta) (C := RX8) (T := TX8) (N := 38) hx hb hts hi_X8_casesBy_8 hown hK hP 0 rfl rfl 13 (by decide) (hts (.fieldLink RX8 35 "TheLiningsInItModel" "takes" "[I") (List.mem_of_getElem? (i := 1) rfl)) (fun _ h9 => h9) rfl dX8_casesBy_80 ?_
      refine lv_iload_n hx hb dX8_casesBy_83 rfl (lv_at hl 3 rfl) ?_
      refine va_iald hx hb hK hP 3 0 rfl rfl (zf_in (by omega) (by omega)) dX8_casesBy_84 ?_
      refine lv_topi (fun x_34 ex_34 => ?_)
      have bx_34 : 0 ≤ x_34.toInt ∧ x_34.toInt ≤ 60 := by rw [ex_34]; exact hp_gta _
      have htx_34 : x_34.toInt ≤ sec.toInt := by (rw [ex_34]; exact htl)
      refine lv_isub hx hb dX8_casesBy_85 ?_
      refine lv_topi (fun x_35 ex_35 => ?_)
      have qx_35 : x_35.toInt = sec.toInt - x_34.toInt := by rw [ex_35]; exact zf_sub rfl rfl (by omega) (by omega)
      refine lv_iload hx hb dX8_casesBy_86 (lv_at hl 7 rfl) ?_
      refine zc_V (As := [.int 2, .int r_31, .int x_35, .int wh]) (rest := [.int x_29, .int 0]) ⟨hx, hb, hml, hown, hts⟩ (c_F_M_mostCases_2 l D cI cJ cZ cP cS po m0 mrf mki mpa mta mla msl mco mhe mso msi msh mce mca mwo mnu mte mwa mke mma mth mtr (npu) (nte) (nat_) (nde) (nto) (nse) (nhu) (nga) (nsd) (nfa) (nba) (npl) (nen) (nnu) (nwr) (nra) (nik) gki gpa gta (r_31) (x_35) (wh) hy0 hy1 hy2 hy3 hy4 hy5 hy6 hy7 hy8 hy9 hy10 hy11 hy12 hy13 (by omega) (by omega) (by omega) (by omega) hy20 hy21 hp_gki hp_gpa hp_gta) (cwV 4 hts gX8_casesBy_X8_mostCases rfl rfl rfl ⟨rfl, dh_X8_mostCases⟩ ⟨Nat.le_of_ble_eq_true rfl, Nat.le_of_ble_eq_true rfl⟩) hK hN hZ hP (hP.sub [0, 1, 2, 3] rfl) (va_recv (q := (RX8, TX8, 38)) hK hP (ci := 8) (q0 := 0) rfl rfl) rfl hl.1 rfl (Nat.le_of_ble_eq_true rfl) dX8_casesBy_88 ⟨Nat.le_of_ble_eq_true rfl, Nat.le_of_ble_eq_true rfl⟩ (fun r_36 hr_36 => ?_)
      obtain ⟨g_37, g_38, hsr_36_0⟩ := hr_36
      refine lv_imul hx hb dX8_casesBy_91 ?_
      refine lv_topi (fun x_39 ex_39 => ?_)
      obtain ⟨mx_39, nx_39, ox_39⟩ := zf_mulc (a := x_29) (b := r_36) (x := x_29.toInt) (y := r_36.toInt) (P := 144) rfl rfl ⟨by omega, by omega⟩ ⟨by omega, by omega⟩ (by decide)
      rw [← ex_39] at mx_39
      refine lv_iadd hx hb dX8_casesBy_92 ?_
      refine lv_topi (fun x_40 ex_40 => ?_)
      have qx_40 : x_40.toInt = 0 + x_39.toInt := by rw [ex_40]; exact zf_add (by decide) rfl (by omega) (by omega)
      exact W.iret (v := x_40) hx hb hr (fun t ht hW => ⟨x_40, rfl, ⟨by omega, by omega, (show (x_40 : Int32).toInt = zBy1 (zM gki gpa gta npu.toInt.toNat nhu.toInt (if wh.toInt = 0 then 1 else 0) 2) (gki p_.toNatClampNeg).toInt (gpa p_.toNatClampNeg).toInt (gta p_.toNatClampNeg).toInt nhu.toInt d.toInt sec.toInt from by (have zw := hsr_1_0; have E1 : r_1.toInt * (zM gki gpa gta npu.toInt.toNat nhu.toInt (if wh.toInt = 0 then 1 else 0) 2) (zShl (gki p_.toNatClampNeg).toInt (gpa p_.toNatClampNeg).toInt d.toInt) (sec.toInt - (gta p_.toNatClampNeg).toInt) = 0 := (by rw [show r_1.toInt = 0 from by omega, Int.zero_mul]); have E2 : (12 - r_1.toInt) * (zM gki gpa gta npu.toInt.toNat nhu.toInt (if wh.toInt = 0 then 1 else 0) 2) (zDpr (gki p_.toNatClampNeg).toInt (gpa p_.toNatClampNeg).toInt nhu.toInt d.toInt) (sec.toInt - (gta p_.toNatClampNeg).toInt) = x_39.toInt := (by rw [← hsr_31_0.2 (by decide), show sec.toInt - (gta p_.toNatClampNeg).toInt = (x_35 : Int32).toInt from by (have z : (gta p_.toNatClampNeg).toInt = x_34.toInt := (by rw [ex_34]); omega), ← hsr_36_0, show 12 - r_1.toInt = x_29.toInt from by omega]; omega); unfold zBy1; rw [← zw, E1, E2]; omega))⟩, ht⟩) (fun q hq => by cases hq) dX8_casesBy_93
    · exfalso; have fc_28 : r_1.toInt = 12 := zf_eq c_28 rfl (by decide); omega
set_option maxHeartbeats 4000000 in
set_option maxRecDepth 100000 in
theorem c_F_M_mostCases_3 (l : Launch) (D : va_G) (cI cJ cZ cP cS : ClassId) (po : zPool) (m0 mrf mki mpa mta mla msl mco mhe mso msi msh mce mca mwo mnu mte mwa mke mma mth mtr : Nat) (npu nte nat_ nde nto nse nhu nga nsd nfa nba npl nen nnu nwr nra nik : Int32) (gki gpa gta : Nat → Int32) (d sec wh : Int32) (hy0 : 0 ≤ npu.toInt) (hy1 : npu.toInt ≤ 8) (hy2 : 4 ≤ nte.toInt) (hy3 : nte.toInt ≤ 40) (hy4 : 0 ≤ nat_.toInt) (hy5 : nat_.toInt ≤ 40) (hy6 : 0 ≤ nde.toInt) (hy7 : nde.toInt ≤ 24) (hy8 : 0 ≤ nhu.toInt) (hy9 : nhu.toInt ≤ 9) (hy10 : 0 ≤ nra.toInt) (hy11 : nra.toInt ≤ 2000) (hy12 : 0 ≤ nik.toInt) (hy13 : nik.toInt ≤ 1) (hy14 : 0 ≤ d.toInt) (hy15 : d.toInt ≤ 24) (hy16 : 0 ≤ sec.toInt) (hy17 : sec.toInt ≤ 300) (hy18 : 0 ≤ wh.toInt) (hy19 : wh.toInt ≤ 1) (hp_gki : zRg gki (0) 6) (hp_gpa : zRg gpa (0) 9) (hp_gta : zRg gta (0) 60) : Met l yX8_mostCases wsX8_mostCases ({ frames := 7, cells := 0, slots := 0, locals := 183 }) (va_Pc [.ref m0, .int 3, .int d, .int sec, .int wh] (zR D (zKT cI cJ cZ cP cS) po [(zMO m0 npu nte nat_ nde nto nse nhu nga nsd nfa mrf mki mpa mta mla msl mco mhe mso msi msh mce mca mwo mnu mte nba npl nen nnu nwr mwa mke mma mth mtr nra nik), (mki, .inl (cI, 8, .inl gki)), (mpa, .inl (cI, 8, .inl gpa)), (mta, .inl (cI, 8, .inl gta))])) (vp_Si (fun r => 0 ≤ r.toInt ∧ r.toInt ≤ 1728 ∧ (r.toInt = (zM gki gpa gta npu.toInt.toNat nhu.toInt (if wh.toInt = 0 then 1 else 0) 3) d.toInt sec.toInt))) 0 0 (fun _ => False) := by
  refine Met.ofW (cc := cX8_mostCases) (maxL := 8) (ret := (some .int)) (by decide) rfl ?_
  intro p e s m args below meth c s₁ B hml hv
  obtain ⟨rfl, hP, hK, hN, hZ⟩ := hv
  have hx := B.exec
  have hb := B.bytes
  have hr := B.returns
  have hts := atoms_spec (ws := wsX8_mostCases) B.pre
  have hown : s.vm.findClass RX8 = some m.cls := findClass_of_methodNamed B.named
  have hlocks := B.notSynchronized
  have hl := lv_entry ([.ref m0, .int 3, .int d, .int sec, .int wh]) (n := 8) (Nat.le_of_ble_eq_true rfl)
  rw [lg_entry_eq]
  generalize (lg_sl ([.ref m0, .int 3, .int d, .int sec, .int wh]) ++ List.replicate (8 - (lg_sl ([.ref m0, .int 3, .int d, .int sec, .int wh])).length) Slot.unset).toArray = ls at hl ⊢
  replace hl : lv_has ls 8 [(0, .ref m0), (1, .int 3), (2, .int d), (3, .int sec), (4, .int wh)] := hl
  refine lv_iload_n hx hb dX8_mostCases_0 rfl (lv_at hl 2 rfl) ?_
  refine lv_if_ne (tgt := 10) hx hb dX8_mostCases_1 (by decide) (fun c_1 => ?_) (fun c_1 => ?_)
  · have fc_1 : d.toInt ≠ 0 := zf_ne c_1 rfl (by decide)
    refine lv_iload_n hx hb dX8_mostCases_10 rfl (lv_at hl 1 rfl) ?_
    refine lv_if_ne (tgt := 16) hx hb dX8_mostCases_11 (by decide) (fun c_2 => ?_) (fun c_2 => ?_)
    · refine lv_bipush (v := 12) hx hb dX8_mostCases_16 (by decide) ?_
      refine lv_aload_n hx hb dX8_mostCases_18 rfl (lv_at hl 0 rfl) ?_
      refine lv_iload_n hx hb dX8_mostCases_19 rfl (lv_at hl 1 rfl) ?_
      refine lv_iconst (v := 1) hx hb dX8_mostCases_20 (by decide) ?_
      refine lv_isub hx hb dX8_mostCases_21 ?_
      refine lv_topi (fun y_3 ey_3 => ?_)
      obtain rfl : y_3 = 2 := ey_3.trans (by decide)
      refine lv_iload_n hx hb dX8_mostCases_22 rfl (lv_at hl 2 rfl) ?_
      refine lv_iload_n hx hb dX8_mostCases_23 rfl (lv_at hl 3 rfl) ?_
      refine lv_iload hx hb dX8_mostCases_24 (lv_at hl 4 rfl) ?_
      refine zc_V (As := [.int 2, .int d, .int sec, .int wh]) (rest := [.int 12]) ⟨hx, hb, hml, hown, hts⟩ (c_F_M_mostCases_2 l D cI cJ cZ cP cS po m0 mrf mki mpa mta mla msl mco mhe mso msi msh mce mca mwo mnu mte mwa mke mma mth mtr (npu) (nte) (nat_) (nde) (nto) (nse) (nhu) (nga) (nsd) (nfa) (nba) (npl) (nen) (nnu) (nwr) (nra) (nik) gki gpa gta (d) (sec) (wh) hy0 hy1 hy2 hy3 hy4 hy5 hy6 hy7 hy8 hy9 hy10 hy11 hy12 hy13 hy14 hy15 hy16 hy17 hy18 hy19 hp_gki hp_gpa hp_gta) (cwV 4 hts gX8_mostCases_X8_mostCases rfl rfl rfl ⟨rfl, dh_X8_mostCases⟩ ⟨Nat.le_of_ble_eq_true rfl, Nat.le_of_ble_eq_true rfl⟩) hK hN hZ hP (hP.sub [0, 1, 2, 3] rfl) (va_recv (q := (RX8, TX8, 38)) hK hP (ci := 8) (q0 := 0) rfl rfl) rfl hl.1 rfl (Nat.le_of_ble_eq_true rfl) dX8_mostCases_26 ⟨Nat.le_of_ble_eq_true rfl, Nat.le_of_ble_eq_true rfl⟩ (fun r_4 hr_4 => ?_)
      obtain ⟨g_5, g_6, hsr_4_0⟩ := hr_4
      refine lv_imul hx hb dX8_mostCases_29 ?_
      refine lv_topi (fun x_7 ex_7 => ?_)
      have qx_7 : x_7.toInt = 12 * r_4.toInt := by rw [ex_7]; exact zf_mul (by decide) rfl (by omega) (by omega)
      refine lv_istore (lv' := [(5, .int x_7), (0, .ref m0), (1, .int 3), (2, .int d), (3, .int sec), (4, .int wh)]) hx hb dX8_mostCases_30 hl (by decide) rfl (fun ls hl => ?_)
      refine lv_iconst (v := 0) hx hb dX8_mostCases_32 (by decide) ?_
      refine lv_istore (lv' := [(6, .int 0), (5, .int x_7), (0, .ref m0), (1, .int 3), (2, .int d), (3, .int sec), (4, .int wh)]) hx hb dX8_mostCases_33 hl (by decide) rfl (fun ls hl => ?_)
      obtain ⟨i_35, hi_35⟩ : ∃ i : Int32, i = 0 := ⟨_, rfl⟩
      replace hl : lv_has ls 8 [(6, .int i_35), (5, .int x_7), (0, .ref m0), (1, .int 3), (2, .int d), (3, .int sec), (4, .int wh)] := by rw [hi_35]; exact lv_sub hl [0, 1, 2, 3, 4, 5, 6] rfl
      have h1i_35 : i_35.toInt = 0 := by rw [hi_35]; decide
      obtain ⟨nfu, hni_35⟩ : ∃ nq9 : Nat, npu.toInt ≤ i_35.toInt + (nq9 : Int) := ⟨((npu.toInt : Int) - 0).toNat, by omega⟩
      have hloi_35 : 0 ≤ i_35.toInt := by omega
      obtain ⟨v_8, hv_8⟩ : ∃ g : Int32, g = x_7 := ⟨_, rfl⟩
      replace hl : lv_has ls 8 [(6, .int i_35), (5, .int v_8), (0, .ref m0), (1, .int 3), (2, .int d), (3, .int sec), (4, .int wh)] := by rw [hv_8]; exact hl
      have hbv_8 : 0 ≤ v_8.toInt ∧ v_8.toInt ≤ 1728 := by rw [hv_8]; exact ⟨by omega, by omega⟩
      have hvi_35_0 : (v_8 : Int32).toInt = zFo gki gta (if wh.toInt = 0 then 1 else 0) d.toInt sec.toInt (12 * (zM gki gpa gta npu.toInt.toNat nhu.toInt (if wh.toInt = 0 then 1 else 0) 2) d.toInt sec.toInt) (zBy (zM gki gpa gta npu.toInt.toNat nhu.toInt (if wh.toInt = 0 then 1 else 0) 2) gki gpa gta nhu.toInt d.toInt sec.toInt) i_35.toInt.toNat := by
        (try rw [hi_35]); (try rw [hv_8]); (rw [(show ((0 : Int32).toInt.toNat) = 0 from by decide)]; have z := hsr_4_0; show _ = 12 * (zM gki gpa gta npu.toInt.toNat nhu.toInt (if wh.toInt = 0 then 1 else 0) 2) d.toInt sec.toInt; rw [← z]; omega)
      have hvi_35_1 : i_35.toInt ≤ npu.toInt := by
        (try rw [hi_35]); (try rw [hv_8]); (have k0 : (0 : Int32).toInt = 0 := (by decide); omega)
      clear h1i_35 hi_35 hv_8
      revert hni_35
      revert hloi_35
      revert hvi_35_1
      revert hvi_35_0
      revert hbv_8
      revert hl
      revert ls
      revert v_8
      revert i_35
      induction nfu with
      | zero =>
        intro i_35 v_8 ls hl hbv_8 hvi_35_0 hvi_35_1 hloi_35 hni_35
        have hzi_35 : npu.toInt ≤ i_35.toInt := by omega
        refine lv_iload hx hb dX8_mostCases_35 (lv_at hl 0 rfl) ?_
        refine lv_aload_n hx hb dX8_mostCases_37 rfl (lv_at hl 2 rfl) ?_
        refine va_get (D := D) (ci := 8) (v := .int npu) (C := RX8) (T := TX8) (N := 38) hx hb hts hi_X8_mostCases_8 hown hK hP 0 rfl rfl 0 (by decide) (hts (.fieldLink RX8 90 "TheLiningsInItModel" "pulls" "I") (List.mem_of_getElem? (i := 1) rfl)) (fun _ h9 => h9) rfl dX8_mostCases_38 ?_
        refine lv_icmp_ge (tgt := 109) hx hb dX8_mostCases_41 (by decide) (fun c_9 => ?_) (fun c_9 => ?_)
        · have fc_9 : npu.toInt ≤ i_35.toInt := zf_le c_9 rfl rfl
          refine lv_iload hx hb dX8_mostCases_109 (lv_at hl 1 rfl) ?_
          exact W.iret (v := v_8) hx hb hr (fun t ht hW => ⟨v_8, rfl, ⟨by omega, by omega, (show (v_8 : Int32).toInt = (zM gki gpa gta npu.toInt.toNat nhu.toInt (if wh.toInt = 0 then 1 else 0) 3) d.toInt sec.toInt from by (have h9 : i_35.toInt.toNat = npu.toInt.toNat := (by omega); have z := hvi_35_0; rw [h9, zM_ref (by omega)] at z; exact z))⟩, ht⟩) (fun q hq => by cases hq) dX8_mostCases_111
        · exfalso; have fc_9 : i_35.toInt < npu.toInt := zf_nle c_9 rfl rfl; omega
      | succ nfu ih =>
        intro i_35 v_8 ls hl hbv_8 hvi_35_0 hvi_35_1 hloi_35 hni_35
        refine lv_iload hx hb dX8_mostCases_35 (lv_at hl 0 rfl) ?_
        refine lv_aload_n hx hb dX8_mostCases_37 rfl (lv_at hl 2 rfl) ?_
        refine va_get (D := D) (ci := 8) (v := .int npu) (C := RX8) (T := TX8) (N := 38) hx hb hts hi_X8_mostCases_8 hown hK hP 0 rfl rfl 0 (by decide) (hts (.fieldLink RX8 90 "TheLiningsInItModel" "pulls" "I") (List.mem_of_getElem? (i := 1) rfl)) (fun _ h9 => h9) rfl dX8_mostCases_38 ?_
        refine lv_icmp_ge (tgt := 109) hx hb dX8_mostCases_41 (by decide) (fun c_10 => ?_) (fun c_10 => ?_)
        · have fc_10 : npu.toInt ≤ i_35.toInt := zf_le c_10 rfl rfl
          refine lv_iload hx hb dX8_mostCases_109 (lv_at hl 1 rfl) ?_
          exact W.iret (v := v_8) hx hb hr (fun t ht hW => ⟨v_8, rfl, ⟨by omega, by omega, (show (v_8 : Int32).toInt = (zM gki gpa gta npu.toInt.toNat nhu.toInt (if wh.toInt = 0 then 1 else 0) 3) d.toInt sec.toInt from by (have h9 : i_35.toInt.toNat = npu.toInt.toNat := (by omega); have z := hvi_35_0; rw [h9, zM_ref (by omega)] at z; exact z))⟩, ht⟩) (fun q hq => by cases hq) dX8_mostCases_111
        · have fc_10 : i_35.toInt < npu.toInt := zf_nle c_10 rfl rfl
          refine lv_aload_n hx hb dX8_mostCases_44 rfl (lv_at hl 2 rfl) ?_
          refine lv_iload hx hb dX8_mostCases_45 (lv_at hl 0 rfl) ?_
          refine lv_iload_n hx hb dX8_mostCases_47 rfl (lv_at hl 4 rfl) ?_
          refine lv_iload_n hx hb dX8_mostCases_48 rfl (lv_at hl 5 rfl) ?_
          refine zc_V (As := [.int i_35, .int d, .int sec]) (rest := []) ⟨hx, hb, hml, hown, hts⟩ (c_F_M_mayBe l D cI cJ cZ cP cS po m0 mrf mki mpa mta mla msl mco mhe mso msi msh mce mca mwo mnu mte mwa mke mma mth mtr (npu) (nte) (nat_) (nde) (nto) (nse) (nhu) (nga) (nsd) (nfa) (nba) (npl) (nen) (nnu) (nwr) (nra) (nik) gta (i_35) (d) (sec) hy0 hy1 hy2 hy3 hy4 hy5 hy6 hy7 hy8 hy9 hy10 hy11 hy12 hy13 (by omega) (by omega) hp_gta) (cwV 3 hts gX8_mostCases_X8_mayBe rfl rfl rfl ⟨rfl, dh_X8_mayBe⟩ ⟨Nat.le_of_ble_eq_true rfl, Nat.le_of_ble_eq_true rfl⟩) hK hN hZ hP (hP.sub [0, 3] rfl) (va_recv (q := (RX8, TX8, 38)) hK hP (ci := 8) (q0 := 0) rfl rfl) rfl hl.1 rfl (Nat.le_of_ble_eq_true rfl) dX8_mostCases_49 ⟨Nat.le_of_ble_eq_true rfl, Nat.le_of_ble_eq_true rfl⟩ (fun r_11 hr_11 => ?_)
          obtain ⟨g_12, g_13, hsr_11_0⟩ := hr_11
          refine lv_if_eq (tgt := 103) hx hb dX8_mostCases_52 (by decide) (fun c_14 => ?_) (fun c_14 => ?_)
          · have fc_14 : r_11.toInt = 0 := zf_eq c_14 rfl (by decide)
            obtain ⟨x_15, ex_15⟩ : ∃ y : Int32, y = i_35 + 1 := ⟨_, rfl⟩
            have qx_15 : x_15.toInt = i_35.toInt + 1 := dw_inc ex_15 fc_10
            refine lv_iinc (v := x_15) (lv' := [(6, .int x_15), (5, .int v_8), (0, .ref m0), (1, .int 3), (2, .int d), (3, .int sec), (4, .int wh)]) hx hb dX8_mostCases_103 hl (k := 0) rfl ex_15.symm (by decide) rfl (fun ls hl => ?_)
            refine lv_goto (tgt := 35) hx hb dX8_mostCases_106 (by decide) ?_
            exact ih x_15 v_8 _ (lv_sub hl [0, 1, 2, 3, 4, 5, 6] rfl) hbv_8 (show (v_8 : Int32).toInt = zFo gki gta (if wh.toInt = 0 then 1 else 0) d.toInt sec.toInt (12 * (zM gki gpa gta npu.toInt.toNat nhu.toInt (if wh.toInt = 0 then 1 else 0) 2) d.toInt sec.toInt) (zBy (zM gki gpa gta npu.toInt.toNat nhu.toInt (if wh.toInt = 0 then 1 else 0) 2) gki gpa gta nhu.toInt d.toInt sec.toInt) x_15.toInt.toNat from by (have hx : x_15.toInt.toNat = i_35.toInt.toNat + 1 := (by omega); have y9 : i_35.toNatClampNeg = i_35.toInt.toNat := rfl; have hm := hsr_11_0; rw [y9] at hm; have no : ¬ zOk gki gta (if wh.toInt = 0 then 1 else 0) d.toInt sec.toInt i_35.toInt.toNat := (fun z => by first | (have z1 := hm.mpr ⟨z.1, z.2.1⟩; omega) | (have z3 := z.2.2; rw [if_neg (by omega)] at z3; omega)); rw [hx, zFo_n no]; exact hvi_35_0)) (show x_15.toInt ≤ npu.toInt from by omega) (dw_lo hloi_35 qx_15) (dw_hn hni_35 qx_15)
          · have fc_14 : r_11.toInt ≠ 0 := zf_ne c_14 rfl (by decide)
            refine lv_iload hx hb dX8_mostCases_55 (lv_at hl 6 rfl) ?_
            refine lv_if_eq (tgt := 74) hx hb dX8_mostCases_57 (by decide) (fun c_16 => ?_) (fun c_16 => ?_)
            · have fc_16 : wh.toInt = 0 := zf_eq c_16 rfl (by decide)
              have htl9 : (gta i_35.toNatClampNeg).toInt ≤ sec.toInt := (hsr_11_0.mp (by omega)).2
              refine lv_aload_n hx hb dX8_mostCases_74 rfl (lv_at hl 2 rfl) ?_
              refine lv_iload hx hb dX8_mostCases_75 (lv_at hl 0 rfl) ?_
              refine lv_iload_n hx hb dX8_mostCases_77 rfl (lv_at hl 3 rfl) ?_
              refine lv_iload_n hx hb dX8_mostCases_78 rfl (lv_at hl 4 rfl) ?_
              refine lv_iload_n hx hb dX8_mostCases_79 rfl (lv_at hl 5 rfl) ?_
              refine lv_iload hx hb dX8_mostCases_80 (lv_at hl 6 rfl) ?_
              refine zc_V (As := [.int i_35, .int 3, .int d, .int sec, .int wh]) (rest := []) ⟨hx, hb, hml, hown, hts⟩ (c_F_M_casesBy_3 l D cI cJ cZ cP cS po m0 mrf mki mpa mta mla msl mco mhe mso msi msh mce mca mwo mnu mte mwa mke mma mth mtr (npu) (nte) (nat_) (nde) (nto) (nse) (nhu) (nga) (nsd) (nfa) (nba) (npl) (nen) (nnu) (nwr) (nra) (nik) gki gpa gta (i_35) (d) (sec) (wh) hy0 hy1 hy2 hy3 hy4 hy5 hy6 hy7 hy8 hy9 hy10 hy11 hy12 hy13 (by omega) (by omega) hy14 hy15 hy16 hy17 hy18 hy19 (by first | assumption | omega) hp_gki hp_gpa hp_gta) (cwV 5 hts gX8_mostCases_X8_casesBy rfl rfl rfl ⟨rfl, dh_X8_casesBy⟩ ⟨Nat.le_of_ble_eq_true rfl, Nat.le_of_ble_eq_true rfl⟩) hK hN hZ hP (hP.sub [0, 1, 2, 3] rfl) (va_recv (q := (RX8, TX8, 38)) hK hP (ci := 8) (q0 := 0) rfl rfl) rfl hl.1 rfl (Nat.le_of_ble_eq_true rfl) dX8_mostCases_82 ⟨Nat.le_of_ble_eq_true rfl, Nat.le_of_ble_eq_true rfl⟩ (fun r_17 hr_17 => ?_)
              obtain ⟨g_18, g_19, hsr_17_0⟩ := hr_17
              refine lv_istore (lv' := [(7, .int r_17), (6, .int i_35), (5, .int v_8), (0, .ref m0), (1, .int 3), (2, .int d), (3, .int sec), (4, .int wh)]) hx hb dX8_mostCases_85 hl (by decide) rfl (fun ls hl => ?_)
              refine lv_iload hx hb dX8_mostCases_87 (lv_at hl 0 rfl) ?_
              refine lv_iload hx hb dX8_mostCases_89 (lv_at hl 2 rfl) ?_
              refine lv_icmp_le (tgt := 99) hx hb dX8_mostCases_91 (by decide) (fun c_20 => ?_) (fun c_20 => ?_)
              · have fc_20 : r_17.toInt ≤ v_8.toInt := zf_le c_20 rfl rfl
                refine lv_iload hx hb dX8_mostCases_99 (lv_at hl 2 rfl) ?_
                refine lv_istore (lv' := [(5, .int v_8), (7, .int r_17), (6, .int i_35), (0, .ref m0), (1, .int 3), (2, .int d), (3, .int sec), (4, .int wh)]) hx hb dX8_mostCases_101 hl (by decide) rfl (fun ls hl => ?_)
                obtain ⟨x_21, ex_21⟩ : ∃ y : Int32, y = i_35 + 1 := ⟨_, rfl⟩
                have qx_21 : x_21.toInt = i_35.toInt + 1 := dw_inc ex_21 fc_10
                refine lv_iinc (v := x_21) (lv' := [(6, .int x_21), (5, .int v_8), (7, .int r_17), (0, .ref m0), (1, .int 3), (2, .int d), (3, .int sec), (4, .int wh)]) hx hb dX8_mostCases_103 hl (k := 2) rfl ex_21.symm (by decide) rfl (fun ls hl => ?_)
                refine lv_goto (tgt := 35) hx hb dX8_mostCases_106 (by decide) ?_
                exact ih x_21 v_8 _ (lv_sub hl [0, 1, 3, 4, 5, 6, 7] rfl) hbv_8 (show (v_8 : Int32).toInt = zFo gki gta (if wh.toInt = 0 then 1 else 0) d.toInt sec.toInt (12 * (zM gki gpa gta npu.toInt.toNat nhu.toInt (if wh.toInt = 0 then 1 else 0) 2) d.toInt sec.toInt) (zBy (zM gki gpa gta npu.toInt.toNat nhu.toInt (if wh.toInt = 0 then 1 else 0) 2) gki gpa gta nhu.toInt d.toInt sec.toInt) x_21.toInt.toNat from by (have hx : x_21.toInt.toNat = i_35.toInt.toNat + 1 := (by omega); have y9 : i_35.toNatClampNeg = i_35.toInt.toNat := rfl; have hm := hsr_11_0; rw [y9] at hm; have ok : zOk gki gta (if wh.toInt = 0 then 1 else 0) d.toInt sec.toInt i_35.toInt.toNat := ⟨(hm.mp (by omega)).1, (hm.mp (by omega)).2, (by first | exact Or.inl (by rw [if_pos (by omega)]; decide) | exact Or.inr (by omega))⟩; rw [hx, zFo_y ok, ← hvi_35_0]; have zr := hsr_17_0; rw [y9] at zr; have zr2 : r_17.toInt = (zBy (zM gki gpa gta npu.toInt.toNat nhu.toInt (if wh.toInt = 0 then 1 else 0) 2) gki gpa gta nhu.toInt d.toInt sec.toInt) i_35.toInt.toNat := zr; omega)) (show x_21.toInt ≤ npu.toInt from by omega) (dw_lo hloi_35 qx_21) (dw_hn hni_35 qx_21)
              · have fc_20 : v_8.toInt < r_17.toInt := zf_nle c_20 rfl rfl
                refine lv_iload hx hb dX8_mostCases_94 (lv_at hl 0 rfl) ?_
                refine lv_goto (tgt := 101) hx hb dX8_mostCases_96 (by decide) ?_
                refine lv_istore (lv' := [(5, .int r_17), (7, .int r_17), (6, .int i_35), (0, .ref m0), (1, .int 3), (2, .int d), (3, .int sec), (4, .int wh)]) hx hb dX8_mostCases_101 hl (by decide) rfl (fun ls hl => ?_)
                obtain ⟨x_22, ex_22⟩ : ∃ y : Int32, y = i_35 + 1 := ⟨_, rfl⟩
                have qx_22 : x_22.toInt = i_35.toInt + 1 := dw_inc ex_22 fc_10
                refine lv_iinc (v := x_22) (lv' := [(6, .int x_22), (5, .int r_17), (7, .int r_17), (0, .ref m0), (1, .int 3), (2, .int d), (3, .int sec), (4, .int wh)]) hx hb dX8_mostCases_103 hl (k := 2) rfl ex_22.symm (by decide) rfl (fun ls hl => ?_)
                refine lv_goto (tgt := 35) hx hb dX8_mostCases_106 (by decide) ?_
                exact ih x_22 r_17 _ (lv_sub hl [0, 1, 3, 4, 5, 6, 7] rfl) ⟨by omega, by omega⟩ (show (r_17 : Int32).toInt = zFo gki gta (if wh.toInt = 0 then 1 else 0) d.toInt sec.toInt (12 * (zM gki gpa gta npu.toInt.toNat nhu.toInt (if wh.toInt = 0 then 1 else 0) 2) d.toInt sec.toInt) (zBy (zM gki gpa gta npu.toInt.toNat nhu.toInt (if wh.toInt = 0 then 1 else 0) 2) gki gpa gta nhu.toInt d.toInt sec.toInt) x_22.toInt.toNat from by (have hx : x_22.toInt.toNat = i_35.toInt.toNat + 1 := (by omega); have y9 : i_35.toNatClampNeg = i_35.toInt.toNat := rfl; have hm := hsr_11_0; rw [y9] at hm; have ok : zOk gki gta (if wh.toInt = 0 then 1 else 0) d.toInt sec.toInt i_35.toInt.toNat := ⟨(hm.mp (by omega)).1, (hm.mp (by omega)).2, (by first | exact Or.inl (by rw [if_pos (by omega)]; decide) | exact Or.inr (by omega))⟩; rw [hx, zFo_y ok, ← hvi_35_0]; have zr := hsr_17_0; rw [y9] at zr; have zr2 : r_17.toInt = (zBy (zM gki gpa gta npu.toInt.toNat nhu.toInt (if wh.toInt = 0 then 1 else 0) 2) gki gpa gta nhu.toInt d.toInt sec.toInt) i_35.toInt.toNat := zr; omega)) (show x_22.toInt ≤ npu.toInt from by omega) (dw_lo hloi_35 qx_22) (dw_hn hni_35 qx_22)
            · have fc_16 : wh.toInt ≠ 0 := zf_ne c_16 rfl (by decide)
              refine lv_aload_n hx hb dX8_mostCases_60 rfl (lv_at hl 2 rfl) ?_
              refine va_get (D := D) (ci := 8) (v := .ref mki) (C := RX8) (T := TX8) (N := 38) hx hb hts hi_X8_mostCases_8 hown hK hP 0 rfl rfl 11 (by decide) (hts (.fieldLink RX8 29 "TheLiningsInItModel" "kind" "[I") (List.mem_of_getElem? (i := 2) rfl)) (fun _ h9 => h9) rfl dX8_mostCases_61 ?_
              refine lv_iload hx hb dX8_mostCases_64 (lv_at hl 0 rfl) ?_
              refine va_iald hx hb hK hP 1 0 rfl rfl (zf_in (by omega) (by omega)) dX8_mostCases_66 ?_
              refine lv_topi (fun x_23 ex_23 => ?_)
              have bx_23 : 0 ≤ x_23.toInt ∧ x_23.toInt ≤ 6 := by rw [ex_23]; exact hp_gki _
              refine lv_iconst (v := 5) hx hb dX8_mostCases_67 (by decide) ?_
              refine lv_icmp_ne (tgt := 74) hx hb dX8_mostCases_68 (by decide) (fun c_24 => ?_) (fun c_24 => ?_)
              · have fc_24 : x_23.toInt ≠ 5 := zf_ne c_24 rfl (by decide)
                have htl9 : (gta i_35.toNatClampNeg).toInt ≤ sec.toInt := (hsr_11_0.mp (by omega)).2
                refine lv_aload_n hx hb dX8_mostCases_74 rfl (lv_at hl 2 rfl) ?_
                refine lv_iload hx hb dX8_mostCases_75 (lv_at hl 0 rfl) ?_
                refine lv_iload_n hx hb dX8_mostCases_77 rfl (lv_at hl 3 rfl) ?_
                refine lv_iload_n hx hb dX8_mostCases_78 rfl (lv_at hl 4 rfl) ?_
                refine lv_iload_n hx hb dX8_mostCases_79 rfl (lv_at hl 5 rfl) ?_
                refine lv_iload hx hb dX8_mostCases_80 (lv_at hl 6 rfl) ?_
                refine zc_V (As := [.int i_35, .int 3, .int d, .int sec, .int wh]) (rest := []) ⟨hx, hb, hml, hown, hts⟩ (c_F_M_casesBy_3 l D cI cJ cZ cP cS po m0 mrf mki mpa mta mla msl mco mhe mso msi msh mce mca mwo mnu mte mwa mke mma mth mtr (npu) (nte) (nat_) (nde) (nto) (nse) (nhu) (nga) (nsd) (nfa) (nba) (npl) (nen) (nnu) (nwr) (nra) (nik) gki gpa gta (i_35) (d) (sec) (wh) hy0 hy1 hy2 hy3 hy4 hy5 hy6 hy7 hy8 hy9 hy10 hy11 hy12 hy13 (by omega) (by omega) hy14 hy15 hy16 hy17 hy18 hy19 (by first | assumption | omega) hp_gki hp_gpa hp_gta) (cwV 5 hts gX8_mostCases_X8_casesBy rfl rfl rfl ⟨rfl, dh_X8_casesBy⟩ ⟨Nat.le_of_ble_eq_true rfl, Nat.le_of_ble_eq_true rfl⟩) hK hN hZ hP (hP.sub [0, 1, 2, 3] rfl) (va_recv (q := (RX8, TX8, 38)) hK hP (ci := 8) (q0 := 0) rfl rfl) rfl hl.1 rfl (Nat.le_of_ble_eq_true rfl) dX8_mostCases_82 ⟨Nat.le_of_ble_eq_true rfl, Nat.le_of_ble_eq_true rfl⟩ (fun r_25 hr_25 => ?_)
                obtain ⟨g_26, g_27, hsr_25_0⟩ := hr_25
                refine lv_istore (lv' := [(7, .int r_25), (6, .int i_35), (5, .int v_8), (0, .ref m0), (1, .int 3), (2, .int d), (3, .int sec), (4, .int wh)]) hx hb dX8_mostCases_85 hl (by decide) rfl (fun ls hl => ?_)
                refine lv_iload hx hb dX8_mostCases_87 (lv_at hl 0 rfl) ?_
                refine lv_iload hx hb dX8_mostCases_89 (lv_at hl 2 rfl) ?_
                refine lv_icmp_le (tgt := 99) hx hb dX8_mostCases_91 (by decide) (fun c_28 => ?_) (fun c_28 => ?_)
                · have fc_28 : r_25.toInt ≤ v_8.toInt := zf_le c_28 rfl rfl
                  refine lv_iload hx hb dX8_mostCases_99 (lv_at hl 2 rfl) ?_
                  refine lv_istore (lv' := [(5, .int v_8), (7, .int r_25), (6, .int i_35), (0, .ref m0), (1, .int 3), (2, .int d), (3, .int sec), (4, .int wh)]) hx hb dX8_mostCases_101 hl (by decide) rfl (fun ls hl => ?_)
                  obtain ⟨x_29, ex_29⟩ : ∃ y : Int32, y = i_35 + 1 := ⟨_, rfl⟩
                  have qx_29 : x_29.toInt = i_35.toInt + 1 := dw_inc ex_29 fc_10
                  refine lv_iinc (v := x_29) (lv' := [(6, .int x_29), (5, .int v_8), (7, .int r_25), (0, .ref m0), (1, .int 3), (2, .int d), (3, .int sec), (4, .int wh)]) hx hb dX8_mostCases_103 hl (k := 2) rfl ex_29.symm (by decide) rfl (fun ls hl => ?_)
                  refine lv_goto (tgt := 35) hx hb dX8_mostCases_106 (by decide) ?_
                  exact ih x_29 v_8 _ (lv_sub hl [0, 1, 3, 4, 5, 6, 7] rfl) hbv_8 (show (v_8 : Int32).toInt = zFo gki gta (if wh.toInt = 0 then 1 else 0) d.toInt sec.toInt (12 * (zM gki gpa gta npu.toInt.toNat nhu.toInt (if wh.toInt = 0 then 1 else 0) 2) d.toInt sec.toInt) (zBy (zM gki gpa gta npu.toInt.toNat nhu.toInt (if wh.toInt = 0 then 1 else 0) 2) gki gpa gta nhu.toInt d.toInt sec.toInt) x_29.toInt.toNat from by (have hx : x_29.toInt.toNat = i_35.toInt.toNat + 1 := (by omega); have y9 : i_35.toNatClampNeg = i_35.toInt.toNat := rfl; have hm := hsr_11_0; rw [y9] at hm; have nk : (gki i_35.toInt.toNat).toInt = x_23.toInt := (by rw [ex_23]; rfl); have ok : zOk gki gta (if wh.toInt = 0 then 1 else 0) d.toInt sec.toInt i_35.toInt.toNat := ⟨(hm.mp (by omega)).1, (hm.mp (by omega)).2, (by first | exact Or.inl (by rw [if_pos (by omega)]; decide) | exact Or.inr (by omega))⟩; rw [hx, zFo_y ok, ← hvi_35_0]; have zr := hsr_25_0; rw [y9] at zr; have zr2 : r_25.toInt = (zBy (zM gki gpa gta npu.toInt.toNat nhu.toInt (if wh.toInt = 0 then 1 else 0) 2) gki gpa gta nhu.toInt d.toInt sec.toInt) i_35.toInt.toNat := zr; omega)) (show x_29.toInt ≤ npu.toInt from by omega) (dw_lo hloi_35 qx_29) (dw_hn hni_35 qx_29)
                · have fc_28 : v_8.toInt < r_25.toInt := zf_nle c_28 rfl rfl
                  refine lv_iload hx hb dX8_mostCases_94 (lv_at hl 0 rfl) ?_
                  refine lv_goto (tgt := 101) hx hb dX8_mostCases_96 (by decide) ?_
                  refine lv_istore (lv' := [(5, .int r_25), (7, .int r_25), (6, .int i_35), (0, .ref m0), (1, .int 3), (2, .int d), (3, .int sec), (4, .int wh)]) hx hb dX8_mostCases_101 hl (by decide) rfl (fun ls hl => ?_)
                  obtain ⟨x_30, ex_30⟩ : ∃ y : Int32, y = i_35 + 1 := ⟨_, rfl⟩
                  have qx_30 : x_30.toInt = i_35.toInt + 1 := dw_inc ex_30 fc_10
                  refine lv_iinc (v := x_30) (lv' := [(6, .int x_30), (5, .int r_25), (7, .int r_25), (0, .ref m0), (1, .int 3), (2, .int d), (3, .int sec), (4, .int wh)]) hx hb dX8_mostCases_103 hl (k := 2) rfl ex_30.symm (by decide) rfl (fun ls hl => ?_)
                  refine lv_goto (tgt := 35) hx hb dX8_mostCases_106 (by decide) ?_
                  exact ih x_30 r_25 _ (lv_sub hl [0, 1, 3, 4, 5, 6, 7] rfl) ⟨by omega, by omega⟩ (show (r_25 : Int32).toInt = zFo gki gta (if wh.toInt = 0 then 1 else 0) d.toInt sec.toInt (12 * (zM gki gpa gta npu.toInt.toNat nhu.toInt (if wh.toInt = 0 then 1 else 0) 2) d.toInt sec.toInt) (zBy (zM gki gpa gta npu.toInt.toNat nhu.toInt (if wh.toInt = 0 then 1 else 0) 2) gki gpa gta nhu.toInt d.toInt sec.toInt) x_30.toInt.toNat from by (have hx : x_30.toInt.toNat = i_35.toInt.toNat + 1 := (by omega); have y9 : i_35.toNatClampNeg = i_35.toInt.toNat := rfl; have hm := hsr_11_0; rw [y9] at hm; have nk : (gki i_35.toInt.toNat).toInt = x_23.toInt := (by rw [ex_23]; rfl); have ok : zOk gki gta (if wh.toInt = 0 then 1 else 0) d.toInt sec.toInt i_35.toInt.toNat := ⟨(hm.mp (by omega)).1, (hm.mp (by omega)).2, (by first | exact Or.inl (by rw [if_pos (by omega)]; decide) | exact Or.inr (by omega))⟩; rw [hx, zFo_y ok, ← hvi_35_0]; have zr := hsr_25_0; rw [y9] at zr; have zr2 : r_25.toInt = (zBy (zM gki gpa gta npu.toInt.toNat nhu.toInt (if wh.toInt = 0 then 1 else 0) 2) gki gpa gta nhu.toInt d.toInt sec.toInt) i_35.toInt.toNat := zr; omega)) (show x_30.toInt ≤ npu.toInt from by omega) (dw_lo hloi_35 qx_30) (dw_hn hni_35 qx_30)
              · have fc_24 : x_23.toInt = 5 := zf_eq c_24 rfl (by decide)
                refine lv_goto (tgt := 103) hx hb dX8_mostCases_71 (by decide) ?_
                obtain ⟨x_31, ex_31⟩ : ∃ y : Int32, y = i_35 + 1 := ⟨_, rfl⟩
                have qx_31 : x_31.toInt = i_35.toInt + 1 := dw_inc ex_31 fc_10
                refine lv_iinc (v := x_31) (lv' := [(6, .int x_31), (5, .int v_8), (0, .ref m0), (1, .int 3), (2, .int d), (3, .int sec), (4, .int wh)]) hx hb dX8_mostCases_103 hl (k := 0) rfl ex_31.symm (by decide) rfl (fun ls hl => ?_)
                refine lv_goto (tgt := 35) hx hb dX8_mostCases_106 (by decide) ?_
                exact ih x_31 v_8 _ (lv_sub hl [0, 1, 2, 3, 4, 5, 6] rfl) hbv_8 (show (v_8 : Int32).toInt = zFo gki gta (if wh.toInt = 0 then 1 else 0) d.toInt sec.toInt (12 * (zM gki gpa gta npu.toInt.toNat nhu.toInt (if wh.toInt = 0 then 1 else 0) 2) d.toInt sec.toInt) (zBy (zM gki gpa gta npu.toInt.toNat nhu.toInt (if wh.toInt = 0 then 1 else 0) 2) gki gpa gta nhu.toInt d.toInt sec.toInt) x_31.toInt.toNat from by (have hx : x_31.toInt.toNat = i_35.toInt.toNat + 1 := (by omega); have y9 : i_35.toNatClampNeg = i_35.toInt.toNat := rfl; have hm := hsr_11_0; rw [y9] at hm; have nk : (gki i_35.toInt.toNat).toInt = x_23.toInt := (by rw [ex_23]; rfl); have no : ¬ zOk gki gta (if wh.toInt = 0 then 1 else 0) d.toInt sec.toInt i_35.toInt.toNat := (fun z => by first | (have z1 := hm.mpr ⟨z.1, z.2.1⟩; omega) | (have z3 := z.2.2; rw [if_neg (by omega)] at z3; omega)); rw [hx, zFo_n no]; exact hvi_35_0)) (show x_31.toInt ≤ npu.toInt from by omega) (dw_lo hloi_35 qx_31) (dw_hn hni_35 qx_31)
    · exact absurd c_2 (by decide)
  · have fc_1 : d.toInt = 0 := zf_eq c_1 rfl (by decide)
    refine lv_aload_n hx hb dX8_mostCases_4 rfl (lv_at hl 0 rfl) ?_
    refine lv_iload_n hx hb dX8_mostCases_5 rfl (lv_at hl 1 rfl) ?_
    refine zc_V (As := [.int 3]) (rest := []) ⟨hx, hb, hml, hown, hts⟩ (c_M_power_3 l D cI cJ cZ cP cS po m0 mrf mki mpa mta mla msl mco mhe mso msi msh mce mca mwo mnu mte mwa mke mma mth mtr (npu) (nte) (nat_) (nde) (nto) (nse) (nhu) (nga) (nsd) (nfa) (nba) (npl) (nen) (nnu) (nwr) (nra) (nik) hy0 hy1 hy2 hy3 hy4 hy5 hy6 hy7 hy8 hy9 hy10 hy11 hy12 hy13) (cwV 1 hts gX8_mostCases_X8_power rfl rfl rfl ⟨rfl, dh_X8_power⟩ ⟨Nat.le_of_ble_eq_true rfl, Nat.le_of_ble_eq_true rfl⟩) hK hN hZ hP (hP.sub [0] rfl) (va_recv (q := (RX8, TX8, 38)) hK hP (ci := 8) (q0 := 0) rfl rfl) rfl hl.1 rfl (Nat.le_of_ble_eq_true rfl) dX8_mostCases_6 ⟨Nat.le_of_ble_eq_true rfl, Nat.le_of_ble_eq_true rfl⟩ (fun r_32 hr_32 => ?_)
    obtain rfl := hr_32
    exact W.iret (v := 1728) hx hb hr (fun t ht hW => ⟨1728, rfl, ⟨by decide, by decide, (show (1728 : Int32).toInt = (zM gki gpa gta npu.toInt.toNat nhu.toInt (if wh.toInt = 0 then 1 else 0) 3) d.toInt sec.toInt from by (have k9 : (1728 : Int32).toInt = 1728 := (by decide); rw [zM_s, if_pos (by omega)]; rw [show zPw 3 = 1728 from by decide]; omega))⟩, ht⟩) (fun q hq => by cases hq) dX8_mostCases_9
set_option maxHeartbeats 4000000 in
set_option maxRecDepth 100000 in
theorem c_F_M_casesBy_4 (l : Launch) (D : va_G) (cI cJ cZ cP cS : ClassId) (po : zPool) (m0 mrf mki mpa mta mla msl mco mhe mso msi msh mce mca mwo mnu mte mwa mke mma mth mtr : Nat) (npu nte nat_ nde nto nse nhu nga nsd nfa nba npl nen nnu nwr nra nik : Int32) (gki gpa gta : Nat → Int32) (p_ d sec wh : Int32) (hy0 : 0 ≤ npu.toInt) (hy1 : npu.toInt ≤ 8) (hy2 : 4 ≤ nte.toInt) (hy3 : nte.toInt ≤ 40) (hy4 : 0 ≤ nat_.toInt) (hy5 : nat_.toInt ≤ 40) (hy6 : 0 ≤ nde.toInt) (hy7 : nde.toInt ≤ 24) (hy8 : 0 ≤ nhu.toInt) (hy9 : nhu.toInt ≤ 9) (hy10 : 0 ≤ nra.toInt) (hy11 : nra.toInt ≤ 2000) (hy12 : 0 ≤ nik.toInt) (hy13 : nik.toInt ≤ 1) (hy14 : 0 ≤ p_.toInt) (hy15 : p_.toInt ≤ 7) (hy16 : 0 ≤ d.toInt) (hy17 : d.toInt ≤ 24) (hy18 : 0 ≤ sec.toInt) (hy19 : sec.toInt ≤ 300) (hy20 : 0 ≤ wh.toInt) (hy21 : wh.toInt ≤ 1) (htl : (gta p_.toNatClampNeg).toInt ≤ sec.toInt) (hp_gki : zRg gki (0) 6) (hp_gpa : zRg gpa (0) 9) (hp_gta : zRg gta (0) 60) : Met l yX8_casesBy wsX8_casesBy ({ frames := 8, cells := 0, slots := 0, locals := 210 }) (va_Pc [.ref m0, .int p_, .int 4, .int d, .int sec, .int wh] (zR D (zKT cI cJ cZ cP cS) po [(zMO m0 npu nte nat_ nde nto nse nhu nga nsd nfa mrf mki mpa mta mla msl mco mhe mso msi msh mce mca mwo mnu mte nba npl nen nnu nwr mwa mke mma mth mtr nra nik), (mki, .inl (cI, 8, .inl gki)), (mpa, .inl (cI, 8, .inl gpa)), (mta, .inl (cI, 8, .inl gta))])) (vp_Si (fun r => 0 ≤ r.toInt ∧ r.toInt ≤ 20736 ∧ (r.toInt = zBy1 (zM gki gpa gta npu.toInt.toNat nhu.toInt (if wh.toInt = 0 then 1 else 0) 3) (gki p_.toNatClampNeg).toInt (gpa p_.toNatClampNeg).toInt (gta p_.toNatClampNeg).toInt nhu.toInt d.toInt sec.toInt))) 0 0 (fun _ => False) := by
  refine Met.ofW (cc := cX8_casesBy) (maxL := 8) (ret := (some .int)) (by decide) rfl ?_
  intro p e s m args below meth c s₁ B hml hv
  obtain ⟨rfl, hP, hK, hN, hZ⟩ := hv
  have hx := B.exec
  have hb := B.bytes
  have hr := B.returns
  have hts := atoms_spec (ws := wsX8_casesBy) B.pre
  have hown : s.vm.findClass RX8 = some m.cls := findClass_of_methodNamed B.named
  have hlocks := B.notSynchronized
  have hl := lv_entry ([.ref m0, .int p_, .int 4, .int d, .int sec, .int wh]) (n := 8) (Nat.le_of_ble_eq_true rfl)
  rw [lg_entry_eq]
  generalize (lg_sl ([.ref m0, .int p_, .int 4, .int d, .int sec, .int wh]) ++ List.replicate (8 - (lg_sl ([.ref m0, .int p_, .int 4, .int d, .int sec, .int wh])).length) Slot.unset).toArray = ls at hl ⊢
  replace hl : lv_has ls 8 [(0, .ref m0), (1, .int p_), (2, .int 4), (3, .int d), (4, .int sec), (5, .int wh)] := hl
  refine lv_aload_n hx hb dX8_casesBy_0 rfl (lv_at hl 0 rfl) ?_
  refine lv_iload_n hx hb dX8_casesBy_1 rfl (lv_at hl 1 rfl) ?_
  refine lv_iload_n hx hb dX8_casesBy_2 rfl (lv_at hl 3 rfl) ?_
  refine zc_V (As := [.int p_, .int d]) (rest := []) ⟨hx, hb, hml, hown, hts⟩ (c_F_M_ways l D cI cJ cZ cP cS po m0 mrf mki mpa mta mla msl mco mhe mso msi msh mce mca mwo mnu mte mwa mke mma mth mtr (npu) (nte) (nat_) (nde) (nto) (nse) (nhu) (nga) (nsd) (nfa) (nba) (npl) (nen) (nnu) (nwr) (nra) (nik) gki gpa (p_) (d) hy0 hy1 hy2 hy3 hy4 hy5 hy6 hy7 hy8 hy9 hy10 hy11 hy12 hy13 hy14 hy15 hy16 hy17 hp_gki hp_gpa) (cwV 2 hts gX8_casesBy_X8_ways rfl rfl rfl ⟨rfl, dh_X8_ways⟩ ⟨Nat.le_of_ble_eq_true rfl, Nat.le_of_ble_eq_true rfl⟩) hK hN hZ hP (hP.sub [0, 1, 2] rfl) (va_recv (q := (RX8, TX8, 38)) hK hP (ci := 8) (q0 := 0) rfl rfl) rfl hl.1 rfl (Nat.le_of_ble_eq_true rfl) dX8_casesBy_3 ⟨Nat.le_of_ble_eq_true rfl, Nat.le_of_ble_eq_true rfl⟩ (fun r_1 hr_1 => ?_)
  obtain ⟨g_2, g_3, hsr_1_0⟩ := hr_1
  refine lv_istore (lv' := [(6, .int r_1), (0, .ref m0), (1, .int p_), (2, .int 4), (3, .int d), (4, .int sec), (5, .int wh)]) hx hb dX8_casesBy_6 hl (by decide) rfl (fun ls hl => ?_)
  refine lv_iload hx hb dX8_casesBy_8 (lv_at hl 0 rfl) ?_
  refine lv_if_ne (tgt := 17) hx hb dX8_casesBy_10 (by decide) (fun c_4 => ?_) (fun c_4 => ?_)
  · have fc_4 : r_1.toInt ≠ 0 := zf_ne c_4 rfl (by decide)
    refine lv_iload hx hb dX8_casesBy_17 (lv_at hl 0 rfl) ?_
    refine lv_aload_n hx hb dX8_casesBy_19 rfl (lv_at hl 1 rfl) ?_
    refine lv_iload_n hx hb dX8_casesBy_20 rfl (lv_at hl 3 rfl) ?_
    refine lv_iconst (v := 1) hx hb dX8_casesBy_21 (by decide) ?_
    refine lv_isub hx hb dX8_casesBy_22 ?_
    refine lv_topi (fun y_5 ey_5 => ?_)
    obtain rfl : y_5 = 3 := ey_5.trans (by decide)
    refine lv_aload_n hx hb dX8_casesBy_23 rfl (lv_at hl 1 rfl) ?_
    refine lv_iload_n hx hb dX8_casesBy_24 rfl (lv_at hl 2 rfl) ?_
    refine lv_iload_n hx hb dX8_casesBy_25 rfl (lv_at hl 4 rfl) ?_
    refine lv_iconst (v := 1) hx hb dX8_casesBy_26 (by decide) ?_
    have kc1 : (1 : Int32).toInt = 1 := by decide
    refine zc_V (As := [.int p_, .int d, .int 1]) (rest := [.int 3, .ref m0, .int r_1]) ⟨hx, hb, hml, hown, hts⟩ (c_F_M_deep l D cI cJ cZ cP cS po m0 mrf mki mpa mta mla msl mco mhe mso msi msh mce mca mwo mnu mte mwa mke mma mth mtr (npu) (nte) (nat_) (nde) (nto) (nse) (nhu) (nga) (nsd) (nfa) (nba) (npl) (nen) (nnu) (nwr) (nra) (nik) gki gpa (p_) (d) (1) hy0 hy1 hy2 hy3 hy4 hy5 hy6 hy7 hy8 hy9 hy10 hy11 hy12 hy13 hy14 hy15 hy16 hy17 (by omega) (by omega) hp_gki hp_gpa) (cwV 3 hts gX8_casesBy_X8_deep rfl rfl rfl ⟨rfl, dh_X8_deep⟩ ⟨Nat.le_of_ble_eq_true rfl, Nat.le_of_ble_eq_true rfl⟩) hK hN hZ hP (hP.sub [0, 1, 2] rfl) (va_recv (q := (RX8, TX8, 38)) hK hP (ci := 8) (q0 := 0) rfl rfl) rfl hl.1 rfl (Nat.le_of_ble_eq_true rfl) dX8_casesBy_27 ⟨Nat.le_of_ble_eq_true rfl, Nat.le_of_ble_eq_true rfl⟩ (fun r_6 hr_6 => ?_)
    obtain ⟨g_7, g_8, hsr_6_0⟩ := hr_6
    refine lv_iload hx hb dX8_casesBy_30 (lv_at hl 5 rfl) ?_
    refine lv_aload_n hx hb dX8_casesBy_32 rfl (lv_at hl 1 rfl) ?_
    refine va_get (D := D) (ci := 8) (v := .ref mta) (C := RX8) (T := TX8) (N := 38) hx hb hts hi_X8_casesBy_8 hown hK hP 0 rfl rfl 13 (by decide) (hts (.fieldLink RX8 35 "TheLiningsInItModel" "takes" "[I") (List.mem_of_getElem? (i := 1) rfl)) (fun _ h9 => h9) rfl dX8_casesBy_33 ?_
    refine lv_iload_n hx hb dX8_casesBy_36 rfl (lv_at hl 2 rfl) ?_
    refine va_iald hx hb hK hP 3 0 rfl rfl (zf_in (by omega) (by omega)) dX8_casesBy_37 ?_
    refine lv_topi (fun x_9 ex_9 => ?_)
    have bx_9 : 0 ≤ x_9.toInt ∧ x_9.toInt ≤ 60 := by rw [ex_9]; exact hp_gta _
    have htx_9 : x_9.toInt ≤ sec.toInt := by (rw [ex_9]; exact htl)
    refine lv_isub hx hb dX8_casesBy_38 ?_
    refine lv_topi (fun x_10 ex_10 => ?_)
    have qx_10 : x_10.toInt = sec.toInt - x_9.toInt := by rw [ex_10]; exact zf_sub rfl rfl (by omega) (by omega)
    refine lv_iload hx hb dX8_casesBy_39 (lv_at hl 6 rfl) ?_
    refine zc_V (As := [.int 3, .int r_6, .int x_10, .int wh]) (rest := [.int r_1]) ⟨hx, hb, hml, hown, hts⟩ (c_F_M_mostCases_3 l D cI cJ cZ cP cS po m0 mrf mki mpa mta mla msl mco mhe mso msi msh mce mca mwo mnu mte mwa mke mma mth mtr (npu) (nte) (nat_) (nde) (nto) (nse) (nhu) (nga) (nsd) (nfa) (nba) (npl) (nen) (nnu) (nwr) (nra) (nik) gki gpa gta (r_6) (x_10) (wh) hy0 hy1 hy2 hy3 hy4 hy5 hy6 hy7 hy8 hy9 hy10 hy11 hy12 hy13 (by omega) (by omega) (by omega) (by omega) hy20 hy21 hp_gki hp_gpa hp_gta) (cwV 4 hts gX8_casesBy_X8_mostCases rfl rfl rfl ⟨rfl, dh_X8_mostCases⟩ ⟨Nat.le_of_ble_eq_true rfl, Nat.le_of_ble_eq_true rfl⟩) hK hN hZ hP (hP.sub [0, 1, 2, 3] rfl) (va_recv (q := (RX8, TX8, 38)) hK hP (ci := 8) (q0 := 0) rfl rfl) rfl hl.1 rfl (Nat.le_of_ble_eq_true rfl) dX8_casesBy_41 ⟨Nat.le_of_ble_eq_true rfl, Nat.le_of_ble_eq_true rfl⟩ (fun r_11 hr_11 => ?_)
    obtain ⟨g_12, g_13, hsr_11_0⟩ := hr_11
    refine lv_imul hx hb dX8_casesBy_44 ?_
    refine lv_topi (fun x_14 ex_14 => ?_)
    obtain ⟨mx_14, nx_14, ox_14⟩ := zf_mulc (a := r_1) (b := r_11) (x := r_1.toInt) (y := r_11.toInt) (P := 1728) rfl rfl ⟨by omega, by omega⟩ ⟨by omega, by omega⟩ (by decide)
    rw [← ex_14] at mx_14
    refine lv_istore (lv' := [(7, .int x_14), (6, .int r_1), (0, .ref m0), (1, .int p_), (2, .int 4), (3, .int d), (4, .int sec), (5, .int wh)]) hx hb dX8_casesBy_45 hl (by decide) rfl (fun ls hl => ?_)
    refine lv_iload hx hb dX8_casesBy_47 (lv_at hl 1 rfl) ?_
    refine lv_bipush (v := 12) hx hb dX8_casesBy_49 (by decide) ?_
    refine lv_icmp_ne (tgt := 59) hx hb dX8_casesBy_51 (by decide) (fun c_15 => ?_) (fun c_15 => ?_)
    · have fc_15 : r_1.toInt ≠ 12 := zf_ne c_15 rfl (by decide)
      refine lv_iload hx hb dX8_casesBy_59 (lv_at hl 0 rfl) ?_
      refine lv_bipush (v := 12) hx hb dX8_casesBy_61 (by decide) ?_
      refine lv_iload hx hb dX8_casesBy_63 (lv_at hl 1 rfl) ?_
      refine lv_isub hx hb dX8_casesBy_65 ?_
      refine lv_topi (fun x_16 ex_16 => ?_)
      have qx_16 : x_16.toInt = 12 - r_1.toInt := by rw [ex_16]; exact zf_sub (by decide) rfl (by omega) (by omega)
      refine lv_aload_n hx hb dX8_casesBy_66 rfl (lv_at hl 2 rfl) ?_
      refine lv_iload_n hx hb dX8_casesBy_67 rfl (lv_at hl 4 rfl) ?_
      refine lv_iconst (v := 1) hx hb dX8_casesBy_68 (by decide) ?_
      refine lv_isub hx hb dX8_casesBy_69 ?_
      refine lv_topi (fun y_17 ey_17 => ?_)
      obtain rfl : y_17 = 3 := ey_17.trans (by decide)
      refine lv_aload_n hx hb dX8_casesBy_70 rfl (lv_at hl 2 rfl) ?_
      refine lv_iload_n hx hb dX8_casesBy_71 rfl (lv_at hl 3 rfl) ?_
      refine lv_iload_n hx hb dX8_casesBy_72 rfl (lv_at hl 5 rfl) ?_
      refine lv_iconst (v := 0) hx hb dX8_casesBy_73 (by decide) ?_
      have kc0 : (0 : Int32).toInt = 0 := by decide
      refine zc_V (As := [.int p_, .int d, .int 0]) (rest := [.int 3, .ref m0, .int x_16, .int x_14]) ⟨hx, hb, hml, hown, hts⟩ (c_F_M_deep l D cI cJ cZ cP cS po m0 mrf mki mpa mta mla msl mco mhe mso msi msh mce mca mwo mnu mte mwa mke mma mth mtr (npu) (nte) (nat_) (nde) (nto) (nse) (nhu) (nga) (nsd) (nfa) (nba) (npl) (nen) (nnu) (nwr) (nra) (nik) gki gpa (p_) (d) (0) hy0 hy1 hy2 hy3 hy4 hy5 hy6 hy7 hy8 hy9 hy10 hy11 hy12 hy13 hy14 hy15 hy16 hy17 (by omega) (by omega) hp_gki hp_gpa) (cwV 3 hts gX8_casesBy_X8_deep rfl rfl rfl ⟨rfl, dh_X8_deep⟩ ⟨Nat.le_of_ble_eq_true rfl, Nat.le_of_ble_eq_true rfl⟩) hK hN hZ hP (hP.sub [0, 1, 2] rfl) (va_recv (q := (RX8, TX8, 38)) hK hP (ci := 8) (q0 := 0) rfl rfl) rfl hl.1 rfl (Nat.le_of_ble_eq_true rfl) dX8_casesBy_74 ⟨Nat.le_of_ble_eq_true rfl, Nat.le_of_ble_eq_true rfl⟩ (fun r_18 hr_18 => ?_)
      obtain ⟨g_19, g_20, hsr_18_0⟩ := hr_18
      refine lv_iload hx hb dX8_casesBy_77 (lv_at hl 6 rfl) ?_
      refine lv_aload_n hx hb dX8_casesBy_79 rfl (lv_at hl 2 rfl) ?_
      refine va_get (D := D) (ci := 8) (v := .ref mta) (C := RX8) (T := TX8) (N := 38) hx hb hts hi_X8_casesBy_8 hown hK hP 0 rfl rfl 13 (by decide) (hts (.fieldLink RX8 35 "TheLiningsInItModel" "takes" "[I") (List.mem_of_getElem? (i := 1) rfl)) (fun _ h9 => h9) rfl dX8_casesBy_80 ?_
      refine lv_iload_n hx hb dX8_casesBy_83 rfl (lv_at hl 3 rfl) ?_
      refine va_iald hx hb hK hP 3 0 rfl rfl (zf_in (by omega) (by omega)) dX8_casesBy_84 ?_
      refine lv_topi (fun y_21 ey_21 => ?_)
      obtain rfl : x_9 = y_21 := ex_9.trans ey_21.symm
      refine lv_isub hx hb dX8_casesBy_85 ?_
      refine lv_topi (fun y_22 ey_22 => ?_)
      obtain rfl : x_10 = y_22 := ex_10.trans ey_22.symm
      refine lv_iload hx hb dX8_casesBy_86 (lv_at hl 7 rfl) ?_
      refine zc_V (As := [.int 3, .int r_18, .int x_10, .int wh]) (rest := [.int x_16, .int x_14]) ⟨hx, hb, hml, hown, hts⟩ (c_F_M_mostCases_3 l D cI cJ cZ cP cS po m0 mrf mki mpa mta mla msl mco mhe mso msi msh mce mca mwo mnu mte mwa mke mma mth mtr (npu) (nte) (nat_) (nde) (nto) (nse) (nhu) (nga) (nsd) (nfa) (nba) (npl) (nen) (nnu) (nwr) (nra) (nik) gki gpa gta (r_18) (x_10) (wh) hy0 hy1 hy2 hy3 hy4 hy5 hy6 hy7 hy8 hy9 hy10 hy11 hy12 hy13 (by omega) (by omega) (by omega) (by omega) hy20 hy21 hp_gki hp_gpa hp_gta) (cwV 4 hts gX8_casesBy_X8_mostCases rfl rfl rfl ⟨rfl, dh_X8_mostCases⟩ ⟨Nat.le_of_ble_eq_true rfl, Nat.le_of_ble_eq_true rfl⟩) hK hN hZ hP (hP.sub [0, 1, 2, 3] rfl) (va_recv (q := (RX8, TX8, 38)) hK hP (ci := 8) (q0 := 0) rfl rfl) rfl hl.1 rfl (Nat.le_of_ble_eq_true rfl) dX8_casesBy_88 ⟨Nat.le_of_ble_eq_true rfl, Nat.le_of_ble_eq_true rfl⟩ (fun r_23 hr_23 => ?_)
      obtain ⟨g_24, g_25, hsr_23_0⟩ := hr_23
      refine lv_imul hx hb dX8_casesBy_91 ?_
      refine lv_topi (fun x_26 ex_26 => ?_)
      obtain ⟨mx_26, nx_26, ox_26⟩ := zf_mulc (a := x_16) (b := r_23) (x := x_16.toInt) (y := r_23.toInt) (P := 1728) rfl rfl ⟨by omega, by omega⟩ ⟨by omega, by omega⟩ (by decide)
      rw [← ex_26] at mx_26
      refine lv_iadd hx hb dX8_casesBy_92 ?_
      refine lv_topi (fun x_27 ex_27 => ?_)
      have qx_27 : x_27.toInt = x_14.toInt + x_26.toInt := by rw [ex_27]; exact zf_add rfl rfl (by omega) (by omega)
      have hmx9 := zMix (w := r_1.toInt) (x := r_11.toInt) (y := r_23.toInt) (P := 1728) ⟨by omega, by omega⟩ ⟨by omega, by omega⟩ ⟨by omega, by omega⟩
      rw [show 12 - r_1.toInt = x_16.toInt from by omega] at hmx9
      exact W.iret (v := x_27) hx hb hr (fun t ht hW => ⟨x_27, rfl, ⟨by omega, by omega, (show (x_27 : Int32).toInt = zBy1 (zM gki gpa gta npu.toInt.toNat nhu.toInt (if wh.toInt = 0 then 1 else 0) 3) (gki p_.toNatClampNeg).toInt (gpa p_.toNatClampNeg).toInt (gta p_.toNatClampNeg).toInt nhu.toInt d.toInt sec.toInt from by (have zw := hsr_1_0; have E1 : r_1.toInt * (zM gki gpa gta npu.toInt.toNat nhu.toInt (if wh.toInt = 0 then 1 else 0) 3) (zShl (gki p_.toNatClampNeg).toInt (gpa p_.toNatClampNeg).toInt d.toInt) (sec.toInt - (gta p_.toNatClampNeg).toInt) = x_14.toInt := (by rw [← hsr_6_0.1 (by decide), show sec.toInt - (gta p_.toNatClampNeg).toInt = (x_10 : Int32).toInt from by (have z : (gta p_.toNatClampNeg).toInt = x_9.toInt := (by rw [ex_9]); omega), ← hsr_11_0]; omega); have E2 : (12 - r_1.toInt) * (zM gki gpa gta npu.toInt.toNat nhu.toInt (if wh.toInt = 0 then 1 else 0) 3) (zDpr (gki p_.toNatClampNeg).toInt (gpa p_.toNatClampNeg).toInt nhu.toInt d.toInt) (sec.toInt - (gta p_.toNatClampNeg).toInt) = x_26.toInt := (by rw [← hsr_18_0.2 (by decide), show sec.toInt - (gta p_.toNatClampNeg).toInt = (x_10 : Int32).toInt from by (have z : (gta p_.toNatClampNeg).toInt = x_9.toInt := (by rw [ex_9]); omega), ← hsr_23_0, show 12 - r_1.toInt = x_16.toInt from by omega]; omega); unfold zBy1; rw [← zw, E1, E2]; omega))⟩, ht⟩) (fun q hq => by cases hq) dX8_casesBy_93
    · have fc_15 : r_1.toInt = 12 := zf_eq c_15 rfl (by decide)
      refine lv_iload hx hb dX8_casesBy_54 (lv_at hl 0 rfl) ?_
      refine lv_goto (tgt := 93) hx hb dX8_casesBy_56 (by decide) ?_
      exact W.iret (v := x_14) hx hb hr (fun t ht hW => ⟨x_14, rfl, ⟨by omega, by omega, (show (x_14 : Int32).toInt = zBy1 (zM gki gpa gta npu.toInt.toNat nhu.toInt (if wh.toInt = 0 then 1 else 0) 3) (gki p_.toNatClampNeg).toInt (gpa p_.toNatClampNeg).toInt (gta p_.toNatClampNeg).toInt nhu.toInt d.toInt sec.toInt from by (have zw := hsr_1_0; have E1 : r_1.toInt * (zM gki gpa gta npu.toInt.toNat nhu.toInt (if wh.toInt = 0 then 1 else 0) 3) (zShl (gki p_.toNatClampNeg).toInt (gpa p_.toNatClampNeg).toInt d.toInt) (sec.toInt - (gta p_.toNatClampNeg).toInt) = x_14.toInt := (by rw [← hsr_6_0.1 (by decide), show sec.toInt - (gta p_.toNatClampNeg).toInt = (x_10 : Int32).toInt from by (have z : (gta p_.toNatClampNeg).toInt = x_9.toInt := (by rw [ex_9]); omega), ← hsr_11_0]; omega); have E2 : (12 - r_1.toInt) * (zM gki gpa gta npu.toInt.toNat nhu.toInt (if wh.toInt = 0 then 1 else 0) 3) (zDpr (gki p_.toNatClampNeg).toInt (gpa p_.toNatClampNeg).toInt nhu.toInt d.toInt) (sec.toInt - (gta p_.toNatClampNeg).toInt) = 0 := (by rw [show 12 - r_1.toInt = 0 from by omega, Int.zero_mul]); unfold zBy1; rw [← zw, E1, E2]; omega))⟩, ht⟩) (fun q hq => by cases hq) dX8_casesBy_93
  · have fc_4 : r_1.toInt = 0 := zf_eq c_4 rfl (by decide)
    refine lv_iconst (v := 0) hx hb dX8_casesBy_13 (by decide) ?_
    refine lv_goto (tgt := 45) hx hb dX8_casesBy_14 (by decide) ?_
    refine lv_istore (lv' := [(7, .int 0), (6, .int r_1), (0, .ref m0), (1, .int p_), (2, .int 4), (3, .int d), (4, .int sec), (5, .int wh)]) hx hb dX8_casesBy_45 hl (by decide) rfl (fun ls hl => ?_)
    refine lv_iload hx hb dX8_casesBy_47 (lv_at hl 1 rfl) ?_
    refine lv_bipush (v := 12) hx hb dX8_casesBy_49 (by decide) ?_
    refine lv_icmp_ne (tgt := 59) hx hb dX8_casesBy_51 (by decide) (fun c_28 => ?_) (fun c_28 => ?_)
    · have fc_28 : r_1.toInt ≠ 12 := zf_ne c_28 rfl (by decide)
      refine lv_iload hx hb dX8_casesBy_59 (lv_at hl 0 rfl) ?_
      refine lv_bipush (v := 12) hx hb dX8_casesBy_61 (by decide) ?_
      refine lv_iload hx hb dX8_casesBy_63 (lv_at hl 1 rfl) ?_
      refine lv_isub hx hb dX8_casesBy_65 ?_
      refine lv_topi (fun x_29 ex_29 => ?_)
      have qx_29 : x_29.toInt = 12 - r_1.toInt := by rw [ex_29]; exact zf_sub (by decide) rfl (by omega) (by omega)
      refine lv_aload_n hx hb dX8_casesBy_66 rfl (lv_at hl 2 rfl) ?_
      refine lv_iload_n hx hb dX8_casesBy_67 rfl (lv_at hl 4 rfl) ?_
      refine lv_iconst (v := 1) hx hb dX8_casesBy_68 (by decide) ?_
      refine lv_isub hx hb dX8_casesBy_69 ?_
      refine lv_topi (fun y_30 ey_30 => ?_)
      obtain rfl : y_30 = 3 := ey_30.trans (by decide)
      refine lv_aload_n hx hb dX8_casesBy_70 rfl (lv_at hl 2 rfl) ?_
      refine lv_iload_n hx hb dX8_casesBy_71 rfl (lv_at hl 3 rfl) ?_
      refine lv_iload_n hx hb dX8_casesBy_72 rfl (lv_at hl 5 rfl) ?_
      refine lv_iconst (v := 0) hx hb dX8_casesBy_73 (by decide) ?_
      have kc0 : (0 : Int32).toInt = 0 := by decide
      refine zc_V (As := [.int p_, .int d, .int 0]) (rest := [.int 3, .ref m0, .int x_29, .int 0]) ⟨hx, hb, hml, hown, hts⟩ (c_F_M_deep l D cI cJ cZ cP cS po m0 mrf mki mpa mta mla msl mco mhe mso msi msh mce mca mwo mnu mte mwa mke mma mth mtr (npu) (nte) (nat_) (nde) (nto) (nse) (nhu) (nga) (nsd) (nfa) (nba) (npl) (nen) (nnu) (nwr) (nra) (nik) gki gpa (p_) (d) (0) hy0 hy1 hy2 hy3 hy4 hy5 hy6 hy7 hy8 hy9 hy10 hy11 hy12 hy13 hy14 hy15 hy16 hy17 (by omega) (by omega) hp_gki hp_gpa) (cwV 3 hts gX8_casesBy_X8_deep rfl rfl rfl ⟨rfl, dh_X8_deep⟩ ⟨Nat.le_of_ble_eq_true rfl, Nat.le_of_ble_eq_true rfl⟩) hK hN hZ hP (hP.sub [0, 1, 2] rfl) (va_recv (q := (RX8, TX8, 38)) hK hP (ci := 8) (q0 := 0) rfl rfl) rfl hl.1 rfl (Nat.le_of_ble_eq_true rfl) dX8_casesBy_74 ⟨Nat.le_of_ble_eq_true rfl, Nat.le_of_ble_eq_true rfl⟩ (fun r_31 hr_31 => ?_)
      obtain ⟨g_32, g_33, hsr_31_0⟩ := hr_31
      refine lv_iload hx hb dX8_casesBy_77 (lv_at hl 6 rfl) ?_
      refine lv_aload_n hx hb dX8_casesBy_79 rfl (lv_at hl 2 rfl) ?_
      refine va_get (D := D) (ci := 8) (v := .ref mta) (C := RX8) (T := TX8) (N := 38) hx hb hts hi_X8_casesBy_8 hown hK hP 0 rfl rfl 13 (by decide) (hts (.fieldLink RX8 35 "TheLiningsInItModel" "takes" "[I") (List.mem_of_getElem? (i := 1) rfl)) (fun _ h9 => h9) rfl dX8_casesBy_80 ?_
      refine lv_iload_n hx hb dX8_casesBy_83 rfl (lv_at hl 3 rfl) ?_
      refine va_iald hx hb hK hP 3 0 rfl rfl (zf_in (by omega) (by omega)) dX8_casesBy_84 ?_
      refine lv_topi (fun x_34 ex_34 => ?_)
      have bx_34 : 0 ≤ x_34.toInt ∧ x_34.toInt ≤ 60 := by rw [ex_34]; exact hp_gta _
      have htx_34 : x_34.toInt ≤ sec.toInt := by (rw [ex_34]; exact htl)
      refine lv_isub hx hb dX8_casesBy_85 ?_
      refine lv_topi (fun x_35 ex_35 => ?_)
      have qx_35 : x_35.toInt = sec.toInt - x_34.toInt := by rw [ex_35]; exact zf_sub rfl rfl (by omega) (by omega)
      refine lv_iload hx hb dX8_casesBy_86 (lv_at hl 7 rfl) ?_
      refine zc_V (As := [.int 3, .int r_31, .int x_35, .int wh]) (rest := [.int x_29, .int 0]) ⟨hx, hb, hml, hown, hts⟩ (c_F_M_mostCases_3 l D cI cJ cZ cP cS po m0 mrf mki mpa mta mla msl mco mhe mso msi msh mce mca mwo mnu mte mwa mke mma mth mtr (npu) (nte) (nat_) (nde) (nto) (nse) (nhu) (nga) (nsd) (nfa) (nba) (npl) (nen) (nnu) (nwr) (nra) (nik) gki gpa gta (r_31) (x_35) (wh) hy0 hy1 hy2 hy3 hy4 hy5 hy6 hy7 hy8 hy9 hy10 hy11 hy12 hy13 (by omega) (by omega) (by omega) (by omega) hy20 hy21 hp_gki hp_gpa hp_gta) (cwV 4 hts gX8_casesBy_X8_mostCases rfl rfl rfl ⟨rfl, dh_X8_mostCases⟩ ⟨Nat.le_of_ble_eq_true rfl, Nat.le_of_ble_eq_true rfl⟩) hK hN hZ hP (hP.sub [0, 1, 2, 3] rfl) (va_recv (q := (RX8, TX8, 38)) hK hP (ci := 8) (q0 := 0) rfl rfl) rfl hl.1 rfl (Nat.le_of_ble_eq_true rfl) dX8_casesBy_88 ⟨Nat.le_of_ble_eq_true rfl, Nat.le_of_ble_eq_true rfl⟩ (fun r_36 hr_36 => ?_)
      obtain ⟨g_37, g_38, hsr_36_0⟩ := hr_36
      refine lv_imul hx hb dX8_casesBy_91 ?_
      refine lv_topi (fun x_39 ex_39 => ?_)
      obtain ⟨mx_39, nx_39, ox_39⟩ := zf_mulc (a := x_29) (b := r_36) (x := x_29.toInt) (y := r_36.toInt) (P := 1728) rfl rfl ⟨by omega, by omega⟩ ⟨by omega, by omega⟩ (by decide)
      rw [← ex_39] at mx_39
      refine lv_iadd hx hb dX8_casesBy_92 ?_
      refine lv_topi (fun x_40 ex_40 => ?_)
      have qx_40 : x_40.toInt = 0 + x_39.toInt := by rw [ex_40]; exact zf_add (by decide) rfl (by omega) (by omega)
      exact W.iret (v := x_40) hx hb hr (fun t ht hW => ⟨x_40, rfl, ⟨by omega, by omega, (show (x_40 : Int32).toInt = zBy1 (zM gki gpa gta npu.toInt.toNat nhu.toInt (if wh.toInt = 0 then 1 else 0) 3) (gki p_.toNatClampNeg).toInt (gpa p_.toNatClampNeg).toInt (gta p_.toNatClampNeg).toInt nhu.toInt d.toInt sec.toInt from by (have zw := hsr_1_0; have E1 : r_1.toInt * (zM gki gpa gta npu.toInt.toNat nhu.toInt (if wh.toInt = 0 then 1 else 0) 3) (zShl (gki p_.toNatClampNeg).toInt (gpa p_.toNatClampNeg).toInt d.toInt) (sec.toInt - (gta p_.toNatClampNeg).toInt) = 0 := (by rw [show r_1.toInt = 0 from by omega, Int.zero_mul]); have E2 : (12 - r_1.toInt) * (zM gki gpa gta npu.toInt.toNat nhu.toInt (if wh.toInt = 0 then 1 else 0) 3) (zDpr (gki p_.toNatClampNeg).toInt (gpa p_.toNatClampNeg).toInt nhu.toInt d.toInt) (sec.toInt - (gta p_.toNatClampNeg).toInt) = x_39.toInt := (by rw [← hsr_31_0.2 (by decide), show sec.toInt - (gta p_.toNatClampNeg).toInt = (x_35 : Int32).toInt from by (have z : (gta p_.toNatClampNeg).toInt = x_34.toInt := (by rw [ex_34]); omega), ← hsr_36_0, show 12 - r_1.toInt = x_29.toInt from by omega]; omega); unfold zBy1; rw [← zw, E1, E2]; omega))⟩, ht⟩) (fun q hq => by cases hq) dX8_casesBy_93
    · exfalso; have fc_28 : r_1.toInt = 12 := zf_eq c_28 rfl (by decide); omega
set_option maxHeartbeats 4000000 in
set_option maxRecDepth 100000 in
theorem c_F_M_mostCases_4 (l : Launch) (D : va_G) (cI cJ cZ cP cS : ClassId) (po : zPool) (m0 mrf mki mpa mta mla msl mco mhe mso msi msh mce mca mwo mnu mte mwa mke mma mth mtr : Nat) (npu nte nat_ nde nto nse nhu nga nsd nfa nba npl nen nnu nwr nra nik : Int32) (gki gpa gta : Nat → Int32) (d sec wh : Int32) (hy0 : 0 ≤ npu.toInt) (hy1 : npu.toInt ≤ 8) (hy2 : 4 ≤ nte.toInt) (hy3 : nte.toInt ≤ 40) (hy4 : 0 ≤ nat_.toInt) (hy5 : nat_.toInt ≤ 40) (hy6 : 0 ≤ nde.toInt) (hy7 : nde.toInt ≤ 24) (hy8 : 0 ≤ nhu.toInt) (hy9 : nhu.toInt ≤ 9) (hy10 : 0 ≤ nra.toInt) (hy11 : nra.toInt ≤ 2000) (hy12 : 0 ≤ nik.toInt) (hy13 : nik.toInt ≤ 1) (hy14 : 0 ≤ d.toInt) (hy15 : d.toInt ≤ 24) (hy16 : 0 ≤ sec.toInt) (hy17 : sec.toInt ≤ 300) (hy18 : 0 ≤ wh.toInt) (hy19 : wh.toInt ≤ 1) (hp_gki : zRg gki (0) 6) (hp_gpa : zRg gpa (0) 9) (hp_gta : zRg gta (0) 60) : Met l yX8_mostCases wsX8_mostCases ({ frames := 9, cells := 0, slots := 0, locals := 237 }) (va_Pc [.ref m0, .int 4, .int d, .int sec, .int wh] (zR D (zKT cI cJ cZ cP cS) po [(zMO m0 npu nte nat_ nde nto nse nhu nga nsd nfa mrf mki mpa mta mla msl mco mhe mso msi msh mce mca mwo mnu mte nba npl nen nnu nwr mwa mke mma mth mtr nra nik), (mki, .inl (cI, 8, .inl gki)), (mpa, .inl (cI, 8, .inl gpa)), (mta, .inl (cI, 8, .inl gta))])) (vp_Si (fun r => 0 ≤ r.toInt ∧ r.toInt ≤ 20736 ∧ (r.toInt = (zM gki gpa gta npu.toInt.toNat nhu.toInt (if wh.toInt = 0 then 1 else 0) 4) d.toInt sec.toInt))) 0 0 (fun _ => False) := by
  refine Met.ofW (cc := cX8_mostCases) (maxL := 8) (ret := (some .int)) (by decide) rfl ?_
  intro p e s m args below meth c s₁ B hml hv
  obtain ⟨rfl, hP, hK, hN, hZ⟩ := hv
  have hx := B.exec
  have hb := B.bytes
  have hr := B.returns
  have hts := atoms_spec (ws := wsX8_mostCases) B.pre
  have hown : s.vm.findClass RX8 = some m.cls := findClass_of_methodNamed B.named
  have hlocks := B.notSynchronized
  have hl := lv_entry ([.ref m0, .int 4, .int d, .int sec, .int wh]) (n := 8) (Nat.le_of_ble_eq_true rfl)
  rw [lg_entry_eq]
  generalize (lg_sl ([.ref m0, .int 4, .int d, .int sec, .int wh]) ++ List.replicate (8 - (lg_sl ([.ref m0, .int 4, .int d, .int sec, .int wh])).length) Slot.unset).toArray = ls at hl ⊢
  replace hl : lv_has ls 8 [(0, .ref m0), (1, .int 4), (2, .int d), (3, .int sec), (4, .int wh)] := hl
  refine lv_iload_n hx hb dX8_mostCases_0 rfl (lv_at hl 2 rfl) ?_
  refine lv_if_ne (tgt := 10) hx hb dX8_mostCases_1 (by decide) (fun c_1 => ?_) (fun c_1 => ?_)
  · have fc_1 : d.toInt ≠ 0 := zf_ne c_1 rfl (by decide)
    refine lv_iload_n hx hb dX8_mostCases_10 rfl (lv_at hl 1 rfl) ?_
    refine lv_if_ne (tgt := 16) hx hb dX8_mostCases_11 (by decide) (fun c_2 => ?_) (fun c_2 => ?_)
    · refine lv_bipush (v := 12) hx hb dX8_mostCases_16 (by decide) ?_
      refine lv_aload_n hx hb dX8_mostCases_18 rfl (lv_at hl 0 rfl) ?_
      refine lv_iload_n hx hb dX8_mostCases_19 rfl (lv_at hl 1 rfl) ?_
      refine lv_iconst (v := 1) hx hb dX8_mostCases_20 (by decide) ?_
      refine lv_isub hx hb dX8_mostCases_21 ?_
      refine lv_topi (fun y_3 ey_3 => ?_)
      obtain rfl : y_3 = 3 := ey_3.trans (by decide)
      refine lv_iload_n hx hb dX8_mostCases_22 rfl (lv_at hl 2 rfl) ?_
      refine lv_iload_n hx hb dX8_mostCases_23 rfl (lv_at hl 3 rfl) ?_
      refine lv_iload hx hb dX8_mostCases_24 (lv_at hl 4 rfl) ?_
      refine zc_V (As := [.int 3, .int d, .int sec, .int wh]) (rest := [.int 12]) ⟨hx, hb, hml, hown, hts⟩ (c_F_M_mostCases_3 l D cI cJ cZ cP cS po m0 mrf mki mpa mta mla msl mco mhe mso msi msh mce mca mwo mnu mte mwa mke mma mth mtr (npu) (nte) (nat_) (nde) (nto) (nse) (nhu) (nga) (nsd) (nfa) (nba) (npl) (nen) (nnu) (nwr) (nra) (nik) gki gpa gta (d) (sec) (wh) hy0 hy1 hy2 hy3 hy4 hy5 hy6 hy7 hy8 hy9 hy10 hy11 hy12 hy13 hy14 hy15 hy16 hy17 hy18 hy19 hp_gki hp_gpa hp_gta) (cwV 4 hts gX8_mostCases_X8_mostCases rfl rfl rfl ⟨rfl, dh_X8_mostCases⟩ ⟨Nat.le_of_ble_eq_true rfl, Nat.le_of_ble_eq_true rfl⟩) hK hN hZ hP (hP.sub [0, 1, 2, 3] rfl) (va_recv (q := (RX8, TX8, 38)) hK hP (ci := 8) (q0 := 0) rfl rfl) rfl hl.1 rfl (Nat.le_of_ble_eq_true rfl) dX8_mostCases_26 ⟨Nat.le_of_ble_eq_true rfl, Nat.le_of_ble_eq_true rfl⟩ (fun r_4 hr_4 => ?_)
      obtain ⟨g_5, g_6, hsr_4_0⟩ := hr_4
      refine lv_imul hx hb dX8_mostCases_29 ?_
      refine lv_topi (fun x_7 ex_7 => ?_)
      have qx_7 : x_7.toInt = 12 * r_4.toInt := by rw [ex_7]; exact zf_mul (by decide) rfl (by omega) (by omega)
      refine lv_istore (lv' := [(5, .int x_7), (0, .ref m0), (1, .int 4), (2, .int d), (3, .int sec), (4, .int wh)]) hx hb dX8_mostCases_30 hl (by decide) rfl (fun ls hl => ?_)
      refine lv_iconst (v := 0) hx hb dX8_mostCases_32 (by decide) ?_
      refine lv_istore (lv' := [(6, .int 0), (5, .int x_7), (0, .ref m0), (1, .int 4), (2, .int d), (3, .int sec), (4, .int wh)]) hx hb dX8_mostCases_33 hl (by decide) rfl (fun ls hl => ?_)
      obtain ⟨i_35, hi_35⟩ : ∃ i : Int32, i = 0 := ⟨_, rfl⟩
      replace hl : lv_has ls 8 [(6, .int i_35), (5, .int x_7), (0, .ref m0), (1, .int 4), (2, .int d), (3, .int sec), (4, .int wh)] := by rw [hi_35]; exact lv_sub hl [0, 1, 2, 3, 4, 5, 6] rfl
      have h1i_35 : i_35.toInt = 0 := by rw [hi_35]; decide
      obtain ⟨nfu, hni_35⟩ : ∃ nq9 : Nat, npu.toInt ≤ i_35.toInt + (nq9 : Int) := ⟨((npu.toInt : Int) - 0).toNat, by omega⟩
      have hloi_35 : 0 ≤ i_35.toInt := by omega
      obtain ⟨v_8, hv_8⟩ : ∃ g : Int32, g = x_7 := ⟨_, rfl⟩
      replace hl : lv_has ls 8 [(6, .int i_35), (5, .int v_8), (0, .ref m0), (1, .int 4), (2, .int d), (3, .int sec), (4, .int wh)] := by rw [hv_8]; exact hl
      have hbv_8 : 0 ≤ v_8.toInt ∧ v_8.toInt ≤ 20736 := by rw [hv_8]; exact ⟨by omega, by omega⟩
      have hvi_35_0 : (v_8 : Int32).toInt = zFo gki gta (if wh.toInt = 0 then 1 else 0) d.toInt sec.toInt (12 * (zM gki gpa gta npu.toInt.toNat nhu.toInt (if wh.toInt = 0 then 1 else 0) 3) d.toInt sec.toInt) (zBy (zM gki gpa gta npu.toInt.toNat nhu.toInt (if wh.toInt = 0 then 1 else 0) 3) gki gpa gta nhu.toInt d.toInt sec.toInt) i_35.toInt.toNat := by
        (try rw [hi_35]); (try rw [hv_8]); (rw [(show ((0 : Int32).toInt.toNat) = 0 from by decide)]; have z := hsr_4_0; show _ = 12 * (zM gki gpa gta npu.toInt.toNat nhu.toInt (if wh.toInt = 0 then 1 else 0) 3) d.toInt sec.toInt; rw [← z]; omega)
      have hvi_35_1 : i_35.toInt ≤ npu.toInt := by
        (try rw [hi_35]); (try rw [hv_8]); (have k0 : (0 : Int32).toInt = 0 := (by decide); omega)
      clear h1i_35 hi_35 hv_8
      revert hni_35
      revert hloi_35
      revert hvi_35_1
      revert hvi_35_0
      revert hbv_8
      revert hl
      revert ls
      revert v_8
      revert i_35
      induction nfu with
      | zero =>
        intro i_35 v_8 ls hl hbv_8 hvi_35_0 hvi_35_1 hloi_35 hni_35
        have hzi_35 : npu.toInt ≤ i_35.toInt := by omega
        refine lv_iload hx hb dX8_mostCases_35 (lv_at hl 0 rfl) ?_
        refine lv_aload_n hx hb dX8_mostCases_37 rfl (lv_at hl 2 rfl) ?_
        refine va_get (D := D) (ci := 8) (v := .int npu) (C := RX8) (T := TX8) (N := 38) hx hb hts hi_X8_mostCases_8 hown hK hP 0 rfl rfl 0 (by decide) (hts (.fieldLink RX8 90 "TheLiningsInItModel" "pulls" "I") (List.mem_of_getElem? (i := 1) rfl)) (fun _ h9 => h9) rfl dX8_mostCases_38 ?_
        refine lv_icmp_ge (tgt := 109) hx hb dX8_mostCases_41 (by decide) (fun c_9 => ?_) (fun c_9 => ?_)
        · have fc_9 : npu.toInt ≤ i_35.toInt := zf_le c_9 rfl rfl
          refine lv_iload hx hb dX8_mostCases_109 (lv_at hl 1 rfl) ?_
          exact W.iret (v := v_8) hx hb hr (fun t ht hW => ⟨v_8, rfl, ⟨by omega, by omega, (show (v_8 : Int32).toInt = (zM gki gpa gta npu.toInt.toNat nhu.toInt (if wh.toInt = 0 then 1 else 0) 4) d.toInt sec.toInt from by (have h9 : i_35.toInt.toNat = npu.toInt.toNat := (by omega); have z := hvi_35_0; rw [h9, zM_ref (by omega)] at z; exact z))⟩, ht⟩) (fun q hq => by cases hq) dX8_mostCases_111
        · exfalso; have fc_9 : i_35.toInt < npu.toInt := zf_nle c_9 rfl rfl; omega
      | succ nfu ih =>
        intro i_35 v_8 ls hl hbv_8 hvi_35_0 hvi_35_1 hloi_35 hni_35
        refine lv_iload hx hb dX8_mostCases_35 (lv_at hl 0 rfl) ?_
        refine lv_aload_n hx hb dX8_mostCases_37 rfl (lv_at hl 2 rfl) ?_
        refine va_get (D := D) (ci := 8) (v := .int npu) (C := RX8) (T := TX8) (N := 38) hx hb hts hi_X8_mostCases_8 hown hK hP 0 rfl rfl 0 (by decide) (hts (.fieldLink RX8 90 "TheLiningsInItModel" "pulls" "I") (List.mem_of_getElem? (i := 1) rfl)) (fun _ h9 => h9) rfl dX8_mostCases_38 ?_
        refine lv_icmp_ge (tgt := 109) hx hb dX8_mostCases_41 (by decide) (fun c_10 => ?_) (fun c_10 => ?_)
        · have fc_10 : npu.toInt ≤ i_35.toInt := zf_le c_10 rfl rfl
          refine lv_iload hx hb dX8_mostCases_109 (lv_at hl 1 rfl) ?_
          exact W.iret (v := v_8) hx hb hr (fun t ht hW => ⟨v_8, rfl, ⟨by omega, by omega, (show (v_8 : Int32).toInt = (zM gki gpa gta npu.toInt.toNat nhu.toInt (if wh.toInt = 0 then 1 else 0) 4) d.toInt sec.toInt from by (have h9 : i_35.toInt.toNat = npu.toInt.toNat := (by omega); have z := hvi_35_0; rw [h9, zM_ref (by omega)] at z; exact z))⟩, ht⟩) (fun q hq => by cases hq) dX8_mostCases_111
        · have fc_10 : i_35.toInt < npu.toInt := zf_nle c_10 rfl rfl
          refine lv_aload_n hx hb dX8_mostCases_44 rfl (lv_at hl 2 rfl) ?_
          refine lv_iload hx hb dX8_mostCases_45 (lv_at hl 0 rfl) ?_
          refine lv_iload_n hx hb dX8_mostCases_47 rfl (lv_at hl 4 rfl) ?_
          refine lv_iload_n hx hb dX8_mostCases_48 rfl (lv_at hl 5 rfl) ?_
          refine zc_V (As := [.int i_35, .int d, .int sec]) (rest := []) ⟨hx, hb, hml, hown, hts⟩ (c_F_M_mayBe l D cI cJ cZ cP cS po m0 mrf mki mpa mta mla msl mco mhe mso msi msh mce mca mwo mnu mte mwa mke mma mth mtr (npu) (nte) (nat_) (nde) (nto) (nse) (nhu) (nga) (nsd) (nfa) (nba) (npl) (nen) (nnu) (nwr) (nra) (nik) gta (i_35) (d) (sec) hy0 hy1 hy2 hy3 hy4 hy5 hy6 hy7 hy8 hy9 hy10 hy11 hy12 hy13 (by omega) (by omega) hp_gta) (cwV 3 hts gX8_mostCases_X8_mayBe rfl rfl rfl ⟨rfl, dh_X8_mayBe⟩ ⟨Nat.le_of_ble_eq_true rfl, Nat.le_of_ble_eq_true rfl⟩) hK hN hZ hP (hP.sub [0, 3] rfl) (va_recv (q := (RX8, TX8, 38)) hK hP (ci := 8) (q0 := 0) rfl rfl) rfl hl.1 rfl (Nat.le_of_ble_eq_true rfl) dX8_mostCases_49 ⟨Nat.le_of_ble_eq_true rfl, Nat.le_of_ble_eq_true rfl⟩ (fun r_11 hr_11 => ?_)
          obtain ⟨g_12, g_13, hsr_11_0⟩ := hr_11
          refine lv_if_eq (tgt := 103) hx hb dX8_mostCases_52 (by decide) (fun c_14 => ?_) (fun c_14 => ?_)
          · have fc_14 : r_11.toInt = 0 := zf_eq c_14 rfl (by decide)
            obtain ⟨x_15, ex_15⟩ : ∃ y : Int32, y = i_35 + 1 := ⟨_, rfl⟩
            have qx_15 : x_15.toInt = i_35.toInt + 1 := dw_inc ex_15 fc_10
            refine lv_iinc (v := x_15) (lv' := [(6, .int x_15), (5, .int v_8), (0, .ref m0), (1, .int 4), (2, .int d), (3, .int sec), (4, .int wh)]) hx hb dX8_mostCases_103 hl (k := 0) rfl ex_15.symm (by decide) rfl (fun ls hl => ?_)
            refine lv_goto (tgt := 35) hx hb dX8_mostCases_106 (by decide) ?_
            exact ih x_15 v_8 _ (lv_sub hl [0, 1, 2, 3, 4, 5, 6] rfl) hbv_8 (show (v_8 : Int32).toInt = zFo gki gta (if wh.toInt = 0 then 1 else 0) d.toInt sec.toInt (12 * (zM gki gpa gta npu.toInt.toNat nhu.toInt (if wh.toInt = 0 then 1 else 0) 3) d.toInt sec.toInt) (zBy (zM gki gpa gta npu.toInt.toNat nhu.toInt (if wh.toInt = 0 then 1 else 0) 3) gki gpa gta nhu.toInt d.toInt sec.toInt) x_15.toInt.toNat from by (have hx : x_15.toInt.toNat = i_35.toInt.toNat + 1 := (by omega); have y9 : i_35.toNatClampNeg = i_35.toInt.toNat := rfl; have hm := hsr_11_0; rw [y9] at hm; have no : ¬ zOk gki gta (if wh.toInt = 0 then 1 else 0) d.toInt sec.toInt i_35.toInt.toNat := (fun z => by first | (have z1 := hm.mpr ⟨z.1, z.2.1⟩; omega) | (have z3 := z.2.2; rw [if_neg (by omega)] at z3; omega)); rw [hx, zFo_n no]; exact hvi_35_0)) (show x_15.toInt ≤ npu.toInt from by omega) (dw_lo hloi_35 qx_15) (dw_hn hni_35 qx_15)
          · have fc_14 : r_11.toInt ≠ 0 := zf_ne c_14 rfl (by decide)
            refine lv_iload hx hb dX8_mostCases_55 (lv_at hl 6 rfl) ?_
            refine lv_if_eq (tgt := 74) hx hb dX8_mostCases_57 (by decide) (fun c_16 => ?_) (fun c_16 => ?_)
            · have fc_16 : wh.toInt = 0 := zf_eq c_16 rfl (by decide)
              have htl9 : (gta i_35.toNatClampNeg).toInt ≤ sec.toInt := (hsr_11_0.mp (by omega)).2
              refine lv_aload_n hx hb dX8_mostCases_74 rfl (lv_at hl 2 rfl) ?_
              refine lv_iload hx hb dX8_mostCases_75 (lv_at hl 0 rfl) ?_
              refine lv_iload_n hx hb dX8_mostCases_77 rfl (lv_at hl 3 rfl) ?_
              refine lv_iload_n hx hb dX8_mostCases_78 rfl (lv_at hl 4 rfl) ?_
              refine lv_iload_n hx hb dX8_mostCases_79 rfl (lv_at hl 5 rfl) ?_
              refine lv_iload hx hb dX8_mostCases_80 (lv_at hl 6 rfl) ?_
              refine zc_V (As := [.int i_35, .int 4, .int d, .int sec, .int wh]) (rest := []) ⟨hx, hb, hml, hown, hts⟩ (c_F_M_casesBy_4 l D cI cJ cZ cP cS po m0 mrf mki mpa mta mla msl mco mhe mso msi msh mce mca mwo mnu mte mwa mke mma mth mtr (npu) (nte) (nat_) (nde) (nto) (nse) (nhu) (nga) (nsd) (nfa) (nba) (npl) (nen) (nnu) (nwr) (nra) (nik) gki gpa gta (i_35) (d) (sec) (wh) hy0 hy1 hy2 hy3 hy4 hy5 hy6 hy7 hy8 hy9 hy10 hy11 hy12 hy13 (by omega) (by omega) hy14 hy15 hy16 hy17 hy18 hy19 (by first | assumption | omega) hp_gki hp_gpa hp_gta) (cwV 5 hts gX8_mostCases_X8_casesBy rfl rfl rfl ⟨rfl, dh_X8_casesBy⟩ ⟨Nat.le_of_ble_eq_true rfl, Nat.le_of_ble_eq_true rfl⟩) hK hN hZ hP (hP.sub [0, 1, 2, 3] rfl) (va_recv (q := (RX8, TX8, 38)) hK hP (ci := 8) (q0 := 0) rfl rfl) rfl hl.1 rfl (Nat.le_of_ble_eq_true rfl) dX8_mostCases_82 ⟨Nat.le_of_ble_eq_true rfl, Nat.le_of_ble_eq_true rfl⟩ (fun r_17 hr_17 => ?_)
              obtain ⟨g_18, g_19, hsr_17_0⟩ := hr_17
              refine lv_istore (lv' := [(7, .int r_17), (6, .int i_35), (5, .int v_8), (0, .ref m0), (1, .int 4), (2, .int d), (3, .int sec), (4, .int wh)]) hx hb dX8_mostCases_85 hl (by decide) rfl (fun ls hl => ?_)
              refine lv_iload hx hb dX8_mostCases_87 (lv_at hl 0 rfl) ?_
              refine lv_iload hx hb dX8_mostCases_89 (lv_at hl 2 rfl) ?_
              refine lv_icmp_le (tgt := 99) hx hb dX8_mostCases_91 (by decide) (fun c_20 => ?_) (fun c_20 => ?_)
              · have fc_20 : r_17.toInt ≤ v_8.toInt := zf_le c_20 rfl rfl
                refine lv_iload hx hb dX8_mostCases_99 (lv_at hl 2 rfl) ?_
                refine lv_istore (lv' := [(5, .int v_8), (7, .int r_17), (6, .int i_35), (0, .ref m0), (1, .int 4), (2, .int d), (3, .int sec), (4, .int wh)]) hx hb dX8_mostCases_101 hl (by decide) rfl (fun ls hl => ?_)
                obtain ⟨x_21, ex_21⟩ : ∃ y : Int32, y = i_35 + 1 := ⟨_, rfl⟩
                have qx_21 : x_21.toInt = i_35.toInt + 1 := dw_inc ex_21 fc_10
                refine lv_iinc (v := x_21) (lv' := [(6, .int x_21), (5, .int v_8), (7, .int r_17), (0, .ref m0), (1, .int 4), (2, .int d), (3, .int sec), (4, .int wh)]) hx hb dX8_mostCases_103 hl (k := 2) rfl ex_21.symm (by decide) rfl (fun ls hl => ?_)
                refine lv_goto (tgt := 35) hx hb dX8_mostCases_106 (by decide) ?_
                exact ih x_21 v_8 _ (lv_sub hl [0, 1, 3, 4, 5, 6, 7] rfl) hbv_8 (show (v_8 : Int32).toInt = zFo gki gta (if wh.toInt = 0 then 1 else 0) d.toInt sec.toInt (12 * (zM gki gpa gta npu.toInt.toNat nhu.toInt (if wh.toInt = 0 then 1 else 0) 3) d.toInt sec.toInt) (zBy (zM gki gpa gta npu.toInt.toNat nhu.toInt (if wh.toInt = 0 then 1 else 0) 3) gki gpa gta nhu.toInt d.toInt sec.toInt) x_21.toInt.toNat from by (have hx : x_21.toInt.toNat = i_35.toInt.toNat + 1 := (by omega); have y9 : i_35.toNatClampNeg = i_35.toInt.toNat := rfl; have hm := hsr_11_0; rw [y9] at hm; have ok : zOk gki gta (if wh.toInt = 0 then 1 else 0) d.toInt sec.toInt i_35.toInt.toNat := ⟨(hm.mp (by omega)).1, (hm.mp (by omega)).2, (by first | exact Or.inl (by rw [if_pos (by omega)]; decide) | exact Or.inr (by omega))⟩; rw [hx, zFo_y ok, ← hvi_35_0]; have zr := hsr_17_0; rw [y9] at zr; have zr2 : r_17.toInt = (zBy (zM gki gpa gta npu.toInt.toNat nhu.toInt (if wh.toInt = 0 then 1 else 0) 3) gki gpa gta nhu.toInt d.toInt sec.toInt) i_35.toInt.toNat := zr; omega)) (show x_21.toInt ≤ npu.toInt from by omega) (dw_lo hloi_35 qx_21) (dw_hn hni_35 qx_21)
              · have fc_20 : v_8.toInt < r_17.toInt := zf_nle c_20 rfl rfl
                refine lv_iload hx hb dX8_mostCases_94 (lv_at hl 0 rfl) ?_
                refine lv_goto (tgt := 101) hx hb dX8_mostCases_96 (by decide) ?_
                refine lv_istore (lv' := [(5, .int r_17), (7, .int r_17), (6, .int i_35), (0, .ref m0), (1, .int 4), (2, .int d), (3, .int sec), (4, .int wh)]) hx hb dX8_mostCases_101 hl (by decide) rfl (fun ls hl => ?_)
                obtain ⟨x_22, ex_22⟩ : ∃ y : Int32, y = i_35 + 1 := ⟨_, rfl⟩
                have qx_22 : x_22.toInt = i_35.toInt + 1 := dw_inc ex_22 fc_10
                refine lv_iinc (v := x_22) (lv' := [(6, .int x_22), (5, .int r_17), (7, .int r_17), (0, .ref m0), (1, .int 4), (2, .int d), (3, .int sec), (4, .int wh)]) hx hb dX8_mostCases_103 hl (k := 2) rfl ex_22.symm (by decide) rfl (fun ls hl => ?_)
                refine lv_goto (tgt := 35) hx hb dX8_mostCases_106 (by decide) ?_
                exact ih x_22 r_17 _ (lv_sub hl [0, 1, 3, 4, 5, 6, 7] rfl) ⟨by omega, by omega⟩ (show (r_17 : Int32).toInt = zFo gki gta (if wh.toInt = 0 then 1 else 0) d.toInt sec.toInt (12 * (zM gki gpa gta npu.toInt.toNat nhu.toInt (if wh.toInt = 0 then 1 else 0) 3) d.toInt sec.toInt) (zBy (zM gki gpa gta npu.toInt.toNat nhu.toInt (if wh.toInt = 0 then 1 else 0) 3) gki gpa gta nhu.toInt d.toInt sec.toInt) x_22.toInt.toNat from by (have hx : x_22.toInt.toNat = i_35.toInt.toNat + 1 := (by omega); have y9 : i_35.toNatClampNeg = i_35.toInt.toNat := rfl; have hm := hsr_11_0; rw [y9] at hm; have ok : zOk gki gta (if wh.toInt = 0 then 1 else 0) d.toInt sec.toInt i_35.toInt.toNat := ⟨(hm.mp (by omega)).1, (hm.mp (by omega)).2, (by first | exact Or.inl (by rw [if_pos (by omega)]; decide) | exact Or.inr (by omega))⟩; rw [hx, zFo_y ok, ← hvi_35_0]; have zr := hsr_17_0; rw [y9] at zr; have zr2 : r_17.toInt = (zBy (zM gki gpa gta npu.toInt.toNat nhu.toInt (if wh.toInt = 0 then 1 else 0) 3) gki gpa gta nhu.toInt d.toInt sec.toInt) i_35.toInt.toNat := zr; omega)) (show x_22.toInt ≤ npu.toInt from by omega) (dw_lo hloi_35 qx_22) (dw_hn hni_35 qx_22)
            · have fc_16 : wh.toInt ≠ 0 := zf_ne c_16 rfl (by decide)
              refine lv_aload_n hx hb dX8_mostCases_60 rfl (lv_at hl 2 rfl) ?_
              refine va_get (D := D) (ci := 8) (v := .ref mki) (C := RX8) (T := TX8) (N := 38) hx hb hts hi_X8_mostCases_8 hown hK hP 0 rfl rfl 11 (by decide) (hts (.fieldLink RX8 29 "TheLiningsInItModel" "kind" "[I") (List.mem_of_getElem? (i := 2) rfl)) (fun _ h9 => h9) rfl dX8_mostCases_61 ?_
              refine lv_iload hx hb dX8_mostCases_64 (lv_at hl 0 rfl) ?_
              refine va_iald hx hb hK hP 1 0 rfl rfl (zf_in (by omega) (by omega)) dX8_mostCases_66 ?_
              refine lv_topi (fun x_23 ex_23 => ?_)
              have bx_23 : 0 ≤ x_23.toInt ∧ x_23.toInt ≤ 6 := by rw [ex_23]; exact hp_gki _
              refine lv_iconst (v := 5) hx hb dX8_mostCases_67 (by decide) ?_
              refine lv_icmp_ne (tgt := 74) hx hb dX8_mostCases_68 (by decide) (fun c_24 => ?_) (fun c_24 => ?_)
              · have fc_24 : x_23.toInt ≠ 5 := zf_ne c_24 rfl (by decide)
                have htl9 : (gta i_35.toNatClampNeg).toInt ≤ sec.toInt := (hsr_11_0.mp (by omega)).2
                refine lv_aload_n hx hb dX8_mostCases_74 rfl (lv_at hl 2 rfl) ?_
                refine lv_iload hx hb dX8_mostCases_75 (lv_at hl 0 rfl) ?_
                refine lv_iload_n hx hb dX8_mostCases_77 rfl (lv_at hl 3 rfl) ?_
                refine lv_iload_n hx hb dX8_mostCases_78 rfl (lv_at hl 4 rfl) ?_
                refine lv_iload_n hx hb dX8_mostCases_79 rfl (lv_at hl 5 rfl) ?_
                refine lv_iload hx hb dX8_mostCases_80 (lv_at hl 6 rfl) ?_
                refine zc_V (As := [.int i_35, .int 4, .int d, .int sec, .int wh]) (rest := []) ⟨hx, hb, hml, hown, hts⟩ (c_F_M_casesBy_4 l D cI cJ cZ cP cS po m0 mrf mki mpa mta mla msl mco mhe mso msi msh mce mca mwo mnu mte mwa mke mma mth mtr (npu) (nte) (nat_) (nde) (nto) (nse) (nhu) (nga) (nsd) (nfa) (nba) (npl) (nen) (nnu) (nwr) (nra) (nik) gki gpa gta (i_35) (d) (sec) (wh) hy0 hy1 hy2 hy3 hy4 hy5 hy6 hy7 hy8 hy9 hy10 hy11 hy12 hy13 (by omega) (by omega) hy14 hy15 hy16 hy17 hy18 hy19 (by first | assumption | omega) hp_gki hp_gpa hp_gta) (cwV 5 hts gX8_mostCases_X8_casesBy rfl rfl rfl ⟨rfl, dh_X8_casesBy⟩ ⟨Nat.le_of_ble_eq_true rfl, Nat.le_of_ble_eq_true rfl⟩) hK hN hZ hP (hP.sub [0, 1, 2, 3] rfl) (va_recv (q := (RX8, TX8, 38)) hK hP (ci := 8) (q0 := 0) rfl rfl) rfl hl.1 rfl (Nat.le_of_ble_eq_true rfl) dX8_mostCases_82 ⟨Nat.le_of_ble_eq_true rfl, Nat.le_of_ble_eq_true rfl⟩ (fun r_25 hr_25 => ?_)
                obtain ⟨g_26, g_27, hsr_25_0⟩ := hr_25
                refine lv_istore (lv' := [(7, .int r_25), (6, .int i_35), (5, .int v_8), (0, .ref m0), (1, .int 4), (2, .int d), (3, .int sec), (4, .int wh)]) hx hb dX8_mostCases_85 hl (by decide) rfl (fun ls hl => ?_)
                refine lv_iload hx hb dX8_mostCases_87 (lv_at hl 0 rfl) ?_
                refine lv_iload hx hb dX8_mostCases_89 (lv_at hl 2 rfl) ?_
                refine lv_icmp_le (tgt := 99) hx hb dX8_mostCases_91 (by decide) (fun c_28 => ?_) (fun c_28 => ?_)
                · have fc_28 : r_25.toInt ≤ v_8.toInt := zf_le c_28 rfl rfl
                  refine lv_iload hx hb dX8_mostCases_99 (lv_at hl 2 rfl) ?_
                  refine lv_istore (lv' := [(5, .int v_8), (7, .int r_25), (6, .int i_35), (0, .ref m0), (1, .int 4), (2, .int d), (3, .int sec), (4, .int wh)]) hx hb dX8_mostCases_101 hl (by decide) rfl (fun ls hl => ?_)
                  obtain ⟨x_29, ex_29⟩ : ∃ y : Int32, y = i_35 + 1 := ⟨_, rfl⟩
                  have qx_29 : x_29.toInt = i_35.toInt + 1 := dw_inc ex_29 fc_10
                  refine lv_iinc (v := x_29) (lv' := [(6, .int x_29), (5, .int v_8), (7, .int r_25), (0, .ref m0), (1, .int 4), (2, .int d), (3, .int sec), (4, .int wh)]) hx hb dX8_mostCases_103 hl (k := 2) rfl ex_29.symm (by decide) rfl (fun ls hl => ?_)
                  refine lv_goto (tgt := 35) hx hb dX8_mostCases_106 (by decide) ?_
                  exact ih x_29 v_8 _ (lv_sub hl [0, 1, 3, 4, 5, 6, 7] rfl) hbv_8 (show (v_8 : Int32).toInt = zFo gki gta (if wh.toInt = 0 then 1 else 0) d.toInt sec.toInt (12 * (zM gki gpa gta npu.toInt.toNat nhu.toInt (if wh.toInt = 0 then 1 else 0) 3) d.toInt sec.toInt) (zBy (zM gki gpa gta npu.toInt.toNat nhu.toInt (if wh.toInt = 0 then 1 else 0) 3) gki gpa gta nhu.toInt d.toInt sec.toInt) x_29.toInt.toNat from by (have hx : x_29.toInt.toNat = i_35.toInt.toNat + 1 := (by omega); have y9 : i_35.toNatClampNeg = i_35.toInt.toNat := rfl; have hm := hsr_11_0; rw [y9] at hm; have nk : (gki i_35.toInt.toNat).toInt = x_23.toInt := (by rw [ex_23]; rfl); have ok : zOk gki gta (if wh.toInt = 0 then 1 else 0) d.toInt sec.toInt i_35.toInt.toNat := ⟨(hm.mp (by omega)).1, (hm.mp (by omega)).2, (by first | exact Or.inl (by rw [if_pos (by omega)]; decide) | exact Or.inr (by omega))⟩; rw [hx, zFo_y ok, ← hvi_35_0]; have zr := hsr_25_0; rw [y9] at zr; have zr2 : r_25.toInt = (zBy (zM gki gpa gta npu.toInt.toNat nhu.toInt (if wh.toInt = 0 then 1 else 0) 3) gki gpa gta nhu.toInt d.toInt sec.toInt) i_35.toInt.toNat := zr; omega)) (show x_29.toInt ≤ npu.toInt from by omega) (dw_lo hloi_35 qx_29) (dw_hn hni_35 qx_29)
                · have fc_28 : v_8.toInt < r_25.toInt := zf_nle c_28 rfl rfl
                  refine lv_iload hx hb dX8_mostCases_94 (lv_at hl 0 rfl) ?_
                  refine lv_goto (tgt := 101) hx hb dX8_mostCases_96 (by decide) ?_
                  refine lv_istore (lv' := [(5, .int r_25), (7, .int r_25), (6, .int i_35), (0, .ref m0), (1, .int 4), (2, .int d), (3, .int sec), (4, .int wh)]) hx hb dX8_mostCases_101 hl (by decide) rfl (fun ls hl => ?_)
                  obtain ⟨x_30, ex_30⟩ : ∃ y : Int32, y = i_35 + 1 := ⟨_, rfl⟩
                  have qx_30 : x_30.toInt = i_35.toInt + 1 := dw_inc ex_30 fc_10
                  refine lv_iinc (v := x_30) (lv' := [(6, .int x_30), (5, .int r_25), (7, .int r_25), (0, .ref m0), (1, .int 4), (2, .int d), (3, .int sec), (4, .int wh)]) hx hb dX8_mostCases_103 hl (k := 2) rfl ex_30.symm (by decide) rfl (fun ls hl => ?_)
                  refine lv_goto (tgt := 35) hx hb dX8_mostCases_106 (by decide) ?_
                  exact ih x_30 r_25 _ (lv_sub hl [0, 1, 3, 4, 5, 6, 7] rfl) ⟨by omega, by omega⟩ (show (r_25 : Int32).toInt = zFo gki gta (if wh.toInt = 0 then 1 else 0) d.toInt sec.toInt (12 * (zM gki gpa gta npu.toInt.toNat nhu.toInt (if wh.toInt = 0 then 1 else 0) 3) d.toInt sec.toInt) (zBy (zM gki gpa gta npu.toInt.toNat nhu.toInt (if wh.toInt = 0 then 1 else 0) 3) gki gpa gta nhu.toInt d.toInt sec.toInt) x_30.toInt.toNat from by (have hx : x_30.toInt.toNat = i_35.toInt.toNat + 1 := (by omega); have y9 : i_35.toNatClampNeg = i_35.toInt.toNat := rfl; have hm := hsr_11_0; rw [y9] at hm; have nk : (gki i_35.toInt.toNat).toInt = x_23.toInt := (by rw [ex_23]; rfl); have ok : zOk gki gta (if wh.toInt = 0 then 1 else 0) d.toInt sec.toInt i_35.toInt.toNat := ⟨(hm.mp (by omega)).1, (hm.mp (by omega)).2, (by first | exact Or.inl (by rw [if_pos (by omega)]; decide) | exact Or.inr (by omega))⟩; rw [hx, zFo_y ok, ← hvi_35_0]; have zr := hsr_25_0; rw [y9] at zr; have zr2 : r_25.toInt = (zBy (zM gki gpa gta npu.toInt.toNat nhu.toInt (if wh.toInt = 0 then 1 else 0) 3) gki gpa gta nhu.toInt d.toInt sec.toInt) i_35.toInt.toNat := zr; omega)) (show x_30.toInt ≤ npu.toInt from by omega) (dw_lo hloi_35 qx_30) (dw_hn hni_35 qx_30)
              · have fc_24 : x_23.toInt = 5 := zf_eq c_24 rfl (by decide)
                refine lv_goto (tgt := 103) hx hb dX8_mostCases_71 (by decide) ?_
                obtain ⟨x_31, ex_31⟩ : ∃ y : Int32, y = i_35 + 1 := ⟨_, rfl⟩
                have qx_31 : x_31.toInt = i_35.toInt + 1 := dw_inc ex_31 fc_10
                refine lv_iinc (v := x_31) (lv' := [(6, .int x_31), (5, .int v_8), (0, .ref m0), (1, .int 4), (2, .int d), (3, .int sec), (4, .int wh)]) hx hb dX8_mostCases_103 hl (k := 0) rfl ex_31.symm (by decide) rfl (fun ls hl => ?_)
                refine lv_goto (tgt := 35) hx hb dX8_mostCases_106 (by decide) ?_
                exact ih x_31 v_8 _ (lv_sub hl [0, 1, 2, 3, 4, 5, 6] rfl) hbv_8 (show (v_8 : Int32).toInt = zFo gki gta (if wh.toInt = 0 then 1 else 0) d.toInt sec.toInt (12 * (zM gki gpa gta npu.toInt.toNat nhu.toInt (if wh.toInt = 0 then 1 else 0) 3) d.toInt sec.toInt) (zBy (zM gki gpa gta npu.toInt.toNat nhu.toInt (if wh.toInt = 0 then 1 else 0) 3) gki gpa gta nhu.toInt d.toInt sec.toInt) x_31.toInt.toNat from by (have hx : x_31.toInt.toNat = i_35.toInt.toNat + 1 := (by omega); have y9 : i_35.toNatClampNeg = i_35.toInt.toNat := rfl; have hm := hsr_11_0; rw [y9] at hm; have nk : (gki i_35.toInt.toNat).toInt = x_23.toInt := (by rw [ex_23]; rfl); have no : ¬ zOk gki gta (if wh.toInt = 0 then 1 else 0) d.toInt sec.toInt i_35.toInt.toNat := (fun z => by first | (have z1 := hm.mpr ⟨z.1, z.2.1⟩; omega) | (have z3 := z.2.2; rw [if_neg (by omega)] at z3; omega)); rw [hx, zFo_n no]; exact hvi_35_0)) (show x_31.toInt ≤ npu.toInt from by omega) (dw_lo hloi_35 qx_31) (dw_hn hni_35 qx_31)
    · exact absurd c_2 (by decide)
  · have fc_1 : d.toInt = 0 := zf_eq c_1 rfl (by decide)
    refine lv_aload_n hx hb dX8_mostCases_4 rfl (lv_at hl 0 rfl) ?_
    refine lv_iload_n hx hb dX8_mostCases_5 rfl (lv_at hl 1 rfl) ?_
    refine zc_V (As := [.int 4]) (rest := []) ⟨hx, hb, hml, hown, hts⟩ (c_M_power_4 l D cI cJ cZ cP cS po m0 mrf mki mpa mta mla msl mco mhe mso msi msh mce mca mwo mnu mte mwa mke mma mth mtr (npu) (nte) (nat_) (nde) (nto) (nse) (nhu) (nga) (nsd) (nfa) (nba) (npl) (nen) (nnu) (nwr) (nra) (nik) hy0 hy1 hy2 hy3 hy4 hy5 hy6 hy7 hy8 hy9 hy10 hy11 hy12 hy13) (cwV 1 hts gX8_mostCases_X8_power rfl rfl rfl ⟨rfl, dh_X8_power⟩ ⟨Nat.le_of_ble_eq_true rfl, Nat.le_of_ble_eq_true rfl⟩) hK hN hZ hP (hP.sub [0] rfl) (va_recv (q := (RX8, TX8, 38)) hK hP (ci := 8) (q0 := 0) rfl rfl) rfl hl.1 rfl (Nat.le_of_ble_eq_true rfl) dX8_mostCases_6 ⟨Nat.le_of_ble_eq_true rfl, Nat.le_of_ble_eq_true rfl⟩ (fun r_32 hr_32 => ?_)
    obtain rfl := hr_32
    exact W.iret (v := 20736) hx hb hr (fun t ht hW => ⟨20736, rfl, ⟨by decide, by decide, (show (20736 : Int32).toInt = (zM gki gpa gta npu.toInt.toNat nhu.toInt (if wh.toInt = 0 then 1 else 0) 4) d.toInt sec.toInt from by (have k9 : (20736 : Int32).toInt = 20736 := (by decide); rw [zM_s, if_pos (by omega)]; rw [show zPw 4 = 20736 from by decide]; omega))⟩, ht⟩) (fun q hq => by cases hq) dX8_mostCases_9
end
section
set_option maxHeartbeats 4000000 in
set_option maxRecDepth 100000 in
theorem c_F_M_nextOf_0 (l : Launch) (D : va_G) (cI cJ cZ cP cS : ClassId) (po : zPool) (m0 mrf mki mpa mta mla msl mco mhe mso msi msh mce mca mwo mnu mte mwa mke mma mth mtr : Nat) (npu nte nat_ nde nto nse nhu nga nsd nfa nba npl nen nnu nwr nra nik : Int32) (gki gpa gta : Nat → Int32) (hy0 : 0 ≤ npu.toInt) (hy1 : npu.toInt ≤ 8) (hy2 : 4 ≤ nte.toInt) (hy3 : nte.toInt ≤ 40) (hy4 : 0 ≤ nat_.toInt) (hy5 : nat_.toInt ≤ 40) (hy6 : 0 ≤ nde.toInt) (hy7 : nde.toInt ≤ 24) (hy8 : 0 ≤ nhu.toInt) (hy9 : nhu.toInt ≤ 9) (hy10 : 0 ≤ nra.toInt) (hy11 : nra.toInt ≤ 2000) (hy12 : 0 ≤ nik.toInt) (hy13 : nik.toInt ≤ 1) (hy14 : 0 ≤ nse.toInt) (hy15 : nse.toInt ≤ 300) (hp_gki : zRg gki (0) 6) (hp_gpa : zRg gpa (0) 9) (hp_gta : zRg gta (0) 60) : Met l yX8_nextOf wsX8_nextOf ({ frames := 0, cells := 0, slots := 0, locals := 0 }) (va_Pc [.ref m0, .int 0] (zR D (zKT cI cJ cZ cP cS) po [(zMO m0 npu nte nat_ nde nto nse nhu nga nsd nfa mrf mki mpa mta mla msl mco mhe mso msi msh mce mca mwo mnu mte nba npl nen nnu nwr mwa mke mma mth mtr nra nik), (mki, .inl (cI, 8, .inl gki)), (mpa, .inl (cI, 8, .inl gpa)), (mta, .inl (cI, 8, .inl gta))])) (vp_Si (fun r => -1 ≤ r.toInt ∧ r.toInt ≤ 7 ∧ (r.toInt = zNq gki gpa gta npu.toInt.toNat nhu.toInt 0 nde.toInt nse.toInt))) 0 0 (fun _ => False) := by
  refine Met.ofW (cc := cX8_nextOf) (maxL := 6) (ret := (some .int)) (by decide) rfl ?_
  intro p e s m args below meth c s₁ B hml hv
  obtain ⟨rfl, hP, hK, hN, hZ⟩ := hv
  have hx := B.exec
  have hb := B.bytes
  have hr := B.returns
  have hts := atoms_spec (ws := wsX8_nextOf) B.pre
  have hown : s.vm.findClass RX8 = some m.cls := findClass_of_methodNamed B.named
  have hlocks := B.notSynchronized
  have hl := lv_entry ([.ref m0, .int 0]) (n := 6) (Nat.le_of_ble_eq_true rfl)
  rw [lg_entry_eq]
  generalize (lg_sl ([.ref m0, .int 0]) ++ List.replicate (6 - (lg_sl ([.ref m0, .int 0])).length) Slot.unset).toArray = ls at hl ⊢
  replace hl : lv_has ls 6 [(0, .ref m0), (1, .int 0)] := hl
  refine lv_iconst (v := (-1)) hx hb dX8_nextOf_0 (by decide) ?_
  refine lv_istore_n (lv' := [(2, .int (-1)), (0, .ref m0), (1, .int 0)]) hx hb dX8_nextOf_1 rfl hl (by decide) rfl (fun ls hl => ?_)
  refine lv_iconst (v := 0) hx hb dX8_nextOf_2 (by decide) ?_
  refine lv_istore_n (lv' := [(3, .int 0), (2, .int (-1)), (0, .ref m0), (1, .int 0)]) hx hb dX8_nextOf_3 rfl hl (by decide) rfl (fun ls hl => ?_)
  refine lv_iconst (v := 0) hx hb dX8_nextOf_4 (by decide) ?_
  refine lv_istore (lv' := [(4, .int 0), (3, .int 0), (2, .int (-1)), (0, .ref m0), (1, .int 0)]) hx hb dX8_nextOf_5 hl (by decide) rfl (fun ls hl => ?_)
  refine lv_iload hx hb dX8_nextOf_7 (lv_at hl 0 rfl) ?_
  refine lv_aload_n hx hb dX8_nextOf_9 rfl (lv_at hl 3 rfl) ?_
  refine va_get (D := D) (ci := 8) (v := .int npu) (C := RX8) (T := TX8) (N := 38) hx hb hts hi_X8_nextOf_8 hown hK hP 0 rfl rfl 0 (by decide) (hts (.fieldLink RX8 90 "TheLiningsInItModel" "pulls" "I") (List.mem_of_getElem? (i := 1) rfl)) (fun _ h9 => h9) rfl dX8_nextOf_10 ?_
  refine lv_icmp_ge (tgt := 84) hx hb dX8_nextOf_13 (by decide) (fun c_1 => ?_) (fun c_1 => ?_)
  · have fc_1 : npu.toInt ≤ 0 := zf_le c_1 rfl (by decide)
    refine lv_iload_n hx hb dX8_nextOf_84 rfl (lv_at hl 2 rfl) ?_
    exact W.iret (v := (-1)) hx hb hr (fun t ht hW => ⟨(-1), rfl, ⟨by decide, by decide, (show ((-1) : Int32).toInt = zNq gki gpa gta npu.toInt.toNat nhu.toInt 0 nde.toInt nse.toInt from by (have k9 : ((-1) : Int32).toInt = -1 := (by decide); unfold zNq; rw [if_pos rfl]; first | exact k9 | omega | decide))⟩, ht⟩) (fun q hq => by cases hq) dX8_nextOf_85
  · have fc_1 : 0 < npu.toInt := zf_nle c_1 rfl (by decide)
    refine lv_iload_n hx hb dX8_nextOf_16 rfl (lv_at hl 4 rfl) ?_
    refine lv_if_le (tgt := 84) hx hb dX8_nextOf_17 (by decide) (fun c_2 => ?_) (fun c_2 => ?_)
    · refine lv_iload_n hx hb dX8_nextOf_84 rfl (lv_at hl 2 rfl) ?_
      exact W.iret (v := (-1)) hx hb hr (fun t ht hW => ⟨(-1), rfl, ⟨by decide, by decide, (show ((-1) : Int32).toInt = zNq gki gpa gta npu.toInt.toNat nhu.toInt 0 nde.toInt nse.toInt from by (have k9 : ((-1) : Int32).toInt = -1 := (by decide); unfold zNq; rw [if_pos rfl]; first | exact k9 | omega | decide))⟩, ht⟩) (fun q hq => by cases hq) dX8_nextOf_85
    · exact absurd c_2 (by decide)
set_option maxHeartbeats 4000000 in
set_option maxRecDepth 100000 in
theorem c_F_M_nextOf_1 (l : Launch) (D : va_G) (cI cJ cZ cP cS : ClassId) (po : zPool) (m0 mrf mki mpa mta mla msl mco mhe mso msi msh mce mca mwo mnu mte mwa mke mma mth mtr : Nat) (npu nte nat_ nde nto nse nhu nga nsd nfa nba npl nen nnu nwr nra nik : Int32) (gki gpa gta : Nat → Int32) (hy0 : 0 ≤ npu.toInt) (hy1 : npu.toInt ≤ 8) (hy2 : 4 ≤ nte.toInt) (hy3 : nte.toInt ≤ 40) (hy4 : 0 ≤ nat_.toInt) (hy5 : nat_.toInt ≤ 40) (hy6 : 0 ≤ nde.toInt) (hy7 : nde.toInt ≤ 24) (hy8 : 0 ≤ nhu.toInt) (hy9 : nhu.toInt ≤ 9) (hy10 : 0 ≤ nra.toInt) (hy11 : nra.toInt ≤ 2000) (hy12 : 0 ≤ nik.toInt) (hy13 : nik.toInt ≤ 1) (hy14 : 0 ≤ nse.toInt) (hy15 : nse.toInt ≤ 300) (hp_gki : zRg gki (0) 6) (hp_gpa : zRg gpa (0) 9) (hp_gta : zRg gta (0) 60) : Met l yX8_nextOf wsX8_nextOf ({ frames := 3, cells := 0, slots := 0, locals := 75 }) (va_Pc [.ref m0, .int 1] (zR D (zKT cI cJ cZ cP cS) po [(zMO m0 npu nte nat_ nde nto nse nhu nga nsd nfa mrf mki mpa mta mla msl mco mhe mso msi msh mce mca mwo mnu mte nba npl nen nnu nwr mwa mke mma mth mtr nra nik), (mki, .inl (cI, 8, .inl gki)), (mpa, .inl (cI, 8, .inl gpa)), (mta, .inl (cI, 8, .inl gta))])) (vp_Si (fun r => -1 ≤ r.toInt ∧ r.toInt ≤ 7 ∧ (r.toInt = zNq gki gpa gta npu.toInt.toNat nhu.toInt 1 nde.toInt nse.toInt))) 0 0 (fun _ => False) := by
  refine Met.ofW (cc := cX8_nextOf) (maxL := 6) (ret := (some .int)) (by decide) rfl ?_
  intro p e s m args below meth c s₁ B hml hv
  obtain ⟨rfl, hP, hK, hN, hZ⟩ := hv
  have hx := B.exec
  have hb := B.bytes
  have hr := B.returns
  have hts := atoms_spec (ws := wsX8_nextOf) B.pre
  have hown : s.vm.findClass RX8 = some m.cls := findClass_of_methodNamed B.named
  have hlocks := B.notSynchronized
  have hl := lv_entry ([.ref m0, .int 1]) (n := 6) (Nat.le_of_ble_eq_true rfl)
  rw [lg_entry_eq]
  generalize (lg_sl ([.ref m0, .int 1]) ++ List.replicate (6 - (lg_sl ([.ref m0, .int 1])).length) Slot.unset).toArray = ls at hl ⊢
  replace hl : lv_has ls 6 [(0, .ref m0), (1, .int 1)] := hl
  refine lv_iconst (v := (-1)) hx hb dX8_nextOf_0 (by decide) ?_
  refine lv_istore_n (lv' := [(2, .int (-1)), (0, .ref m0), (1, .int 1)]) hx hb dX8_nextOf_1 rfl hl (by decide) rfl (fun ls hl => ?_)
  refine lv_iconst (v := 0) hx hb dX8_nextOf_2 (by decide) ?_
  refine lv_istore_n (lv' := [(3, .int 0), (2, .int (-1)), (0, .ref m0), (1, .int 1)]) hx hb dX8_nextOf_3 rfl hl (by decide) rfl (fun ls hl => ?_)
  refine lv_iconst (v := 0) hx hb dX8_nextOf_4 (by decide) ?_
  refine lv_istore (lv' := [(4, .int 0), (3, .int 0), (2, .int (-1)), (0, .ref m0), (1, .int 1)]) hx hb dX8_nextOf_5 hl (by decide) rfl (fun ls hl => ?_)
  obtain ⟨i_7, hi_7⟩ : ∃ i : Int32, i = 0 := ⟨_, rfl⟩
  replace hl : lv_has ls 6 [(4, .int i_7), (3, .int 0), (2, .int (-1)), (0, .ref m0), (1, .int 1)] := by rw [hi_7]; exact lv_sub hl [0, 1, 2, 3, 4] rfl
  have h1i_7 : i_7.toInt = 0 := by rw [hi_7]; decide
  obtain ⟨nfu, hni_7⟩ : ∃ nq9 : Nat, npu.toInt ≤ i_7.toInt + (nq9 : Int) := ⟨((npu.toInt : Int) - 0).toNat, by omega⟩
  have hloi_7 : 0 ≤ i_7.toInt := by omega
  obtain ⟨v_1, hv_1⟩ : ∃ g : Int32, g = (-1) := ⟨_, rfl⟩
  obtain ⟨v_2, hv_2⟩ : ∃ g : Int32, g = 0 := ⟨_, rfl⟩
  replace hl : lv_has ls 6 [(4, .int i_7), (3, .int v_2), (2, .int v_1), (0, .ref m0), (1, .int 1)] := by rw [hv_1, hv_2]; exact hl
  have hbv_1 : -1 ≤ v_1.toInt ∧ v_1.toInt ≤ 7 := by rw [hv_1]; exact ⟨by decide, by decide⟩
  have hbv_2 : 0 ≤ v_2.toInt ∧ v_2.toInt ≤ 12 := by rw [hv_2]; exact ⟨by decide, by decide⟩
  have hvi_7_0 : (v_1 : Int32).toInt = zNg gki gta 1 nde.toInt nse.toInt (zBy (zM gki gpa gta npu.toInt.toNat nhu.toInt 1 0) gki gpa gta nhu.toInt nde.toInt nse.toInt) i_7.toInt.toNat := by
    (try rw [hi_7]); (try rw [hv_1]); (try rw [hv_2]); (rw [(show ((0 : Int32).toInt.toNat) = 0 from by decide)]; show _ = (-1 : Int); decide)
  have hvi_7_1 : ((v_1 : Int32).toInt = -1 ∨ (0 ≤ (v_1 : Int32).toInt ∧ (v_2 : Int32).toInt = (zBy (zM gki gpa gta npu.toInt.toNat nhu.toInt 1 0) gki gpa gta nhu.toInt nde.toInt nse.toInt) (v_1 : Int32).toInt.toNat)) := by
    (try rw [hi_7]); (try rw [hv_1]); (try rw [hv_2]); (exact Or.inl (by decide))
  have hvi_7_2 : i_7.toInt ≤ npu.toInt ∧ (v_1 : Int32).toInt < i_7.toInt := by
    (try rw [hi_7]); (try rw [hv_1]); (try rw [hv_2]); (have k0 : (0 : Int32).toInt = 0 := (by decide); have km : ((-1) : Int32).toInt = -1 := (by decide); omega)
  clear h1i_7 hi_7 hv_1 hv_2
  revert hni_7
  revert hloi_7
  revert hvi_7_2
  revert hvi_7_1
  revert hvi_7_0
  revert hbv_2
  revert hbv_1
  revert hl
  revert ls
  revert v_2
  revert v_1
  revert i_7
  induction nfu with
  | zero =>
    intro i_7 v_1 v_2 ls hl hbv_1 hbv_2 hvi_7_0 hvi_7_1 hvi_7_2 hloi_7 hni_7
    have hzi_7 : npu.toInt ≤ i_7.toInt := by omega
    refine lv_iload hx hb dX8_nextOf_7 (lv_at hl 0 rfl) ?_
    refine lv_aload_n hx hb dX8_nextOf_9 rfl (lv_at hl 3 rfl) ?_
    refine va_get (D := D) (ci := 8) (v := .int npu) (C := RX8) (T := TX8) (N := 38) hx hb hts hi_X8_nextOf_8 hown hK hP 0 rfl rfl 0 (by decide) (hts (.fieldLink RX8 90 "TheLiningsInItModel" "pulls" "I") (List.mem_of_getElem? (i := 1) rfl)) (fun _ h9 => h9) rfl dX8_nextOf_10 ?_
    refine lv_icmp_ge (tgt := 84) hx hb dX8_nextOf_13 (by decide) (fun c_3 => ?_) (fun c_3 => ?_)
    · have fc_3 : npu.toInt ≤ i_7.toInt := zf_le c_3 rfl rfl
      refine lv_iload_n hx hb dX8_nextOf_84 rfl (lv_at hl 2 rfl) ?_
      exact W.iret (v := v_1) hx hb hr (fun t ht hW => ⟨v_1, rfl, ⟨by omega, by omega, (show (v_1 : Int32).toInt = zNq gki gpa gta npu.toInt.toNat nhu.toInt 1 nde.toInt nse.toInt from by (have h9 : i_7.toInt.toNat = npu.toInt.toNat := (by omega); have z := hvi_7_0; rw [h9] at z; unfold zNq; rw [if_neg (by decide), show ((1 : Int) - 1).toNat = 0 from by decide]; exact z))⟩, ht⟩) (fun q hq => by cases hq) dX8_nextOf_85
    · exfalso; have fc_3 : i_7.toInt < npu.toInt := zf_nle c_3 rfl rfl; omega
  | succ nfu ih =>
    intro i_7 v_1 v_2 ls hl hbv_1 hbv_2 hvi_7_0 hvi_7_1 hvi_7_2 hloi_7 hni_7
    refine lv_iload hx hb dX8_nextOf_7 (lv_at hl 0 rfl) ?_
    refine lv_aload_n hx hb dX8_nextOf_9 rfl (lv_at hl 3 rfl) ?_
    refine va_get (D := D) (ci := 8) (v := .int npu) (C := RX8) (T := TX8) (N := 38) hx hb hts hi_X8_nextOf_8 hown hK hP 0 rfl rfl 0 (by decide) (hts (.fieldLink RX8 90 "TheLiningsInItModel" "pulls" "I") (List.mem_of_getElem? (i := 1) rfl)) (fun _ h9 => h9) rfl dX8_nextOf_10 ?_
    refine lv_icmp_ge (tgt := 84) hx hb dX8_nextOf_13 (by decide) (fun c_4 => ?_) (fun c_4 => ?_)
    · have fc_4 : npu.toInt ≤ i_7.toInt := zf_le c_4 rfl rfl
      refine lv_iload_n hx hb dX8_nextOf_84 rfl (lv_at hl 2 rfl) ?_
      exact W.iret (v := v_1) hx hb hr (fun t ht hW => ⟨v_1, rfl, ⟨by omega, by omega, (show (v_1 : Int32).toInt = zNq gki gpa gta npu.toInt.toNat nhu.toInt 1 nde.toInt nse.toInt from by (have h9 : i_7.toInt.toNat = npu.toInt.toNat := (by omega); have z := hvi_7_0; rw [h9] at z; unfold zNq; rw [if_neg (by decide), show ((1 : Int) - 1).toNat = 0 from by decide]; exact z))⟩, ht⟩) (fun q hq => by cases hq) dX8_nextOf_85
    · have fc_4 : i_7.toInt < npu.toInt := zf_nle c_4 rfl rfl
      refine lv_iload_n hx hb dX8_nextOf_16 rfl (lv_at hl 4 rfl) ?_
      refine lv_if_le (tgt := 84) hx hb dX8_nextOf_17 (by decide) (fun c_5 => ?_) (fun c_5 => ?_)
      · exact absurd c_5 (by decide)
      · refine lv_aload_n hx hb dX8_nextOf_20 rfl (lv_at hl 3 rfl) ?_
        refine lv_iload hx hb dX8_nextOf_21 (lv_at hl 0 rfl) ?_
        refine lv_aload_n hx hb dX8_nextOf_23 rfl (lv_at hl 3 rfl) ?_
        refine va_get (D := D) (ci := 8) (v := .int nde) (C := RX8) (T := TX8) (N := 38) hx hb hts hi_X8_nextOf_8 hown hK hP 0 rfl rfl 3 (by decide) (hts (.fieldLink RX8 115 "TheLiningsInItModel" "depth" "I") (List.mem_of_getElem? (i := 2) rfl)) (fun _ h9 => h9) rfl dX8_nextOf_24 ?_
        refine lv_aload_n hx hb dX8_nextOf_27 rfl (lv_at hl 3 rfl) ?_
        refine va_get (D := D) (ci := 8) (v := .int nse) (C := RX8) (T := TX8) (N := 38) hx hb hts hi_X8_nextOf_8 hown hK hP 0 rfl rfl 5 (by decide) (hts (.fieldLink RX8 13 "TheLiningsInItModel" "seconds" "I") (List.mem_of_getElem? (i := 3) rfl)) (fun _ h9 => h9) rfl dX8_nextOf_28 ?_
        refine zc_V (As := [.int i_7, .int nde, .int nse]) (rest := []) ⟨hx, hb, hml, hown, hts⟩ (c_F_M_mayBe l D cI cJ cZ cP cS po m0 mrf mki mpa mta mla msl mco mhe mso msi msh mce mca mwo mnu mte mwa mke mma mth mtr (npu) (nte) (nat_) (nde) (nto) (nse) (nhu) (nga) (nsd) (nfa) (nba) (npl) (nen) (nnu) (nwr) (nra) (nik) gta (i_7) (nde) (nse) hy0 hy1 hy2 hy3 hy4 hy5 hy6 hy7 hy8 hy9 hy10 hy11 hy12 hy13 (by omega) (by omega) hp_gta) (cwV 3 hts gX8_nextOf_X8_mayBe rfl rfl rfl ⟨rfl, dh_X8_mayBe⟩ ⟨Nat.le_of_ble_eq_true rfl, Nat.le_of_ble_eq_true rfl⟩) hK hN hZ hP (hP.sub [0, 3] rfl) (va_recv (q := (RX8, TX8, 38)) hK hP (ci := 8) (q0 := 0) rfl rfl) rfl hl.1 rfl (Nat.le_of_ble_eq_true rfl) dX8_nextOf_31 ⟨Nat.le_of_ble_eq_true rfl, Nat.le_of_ble_eq_true rfl⟩ (fun r_6 hr_6 => ?_)
        obtain ⟨g_7, g_8, hsr_6_0⟩ := hr_6
        refine lv_if_ne (tgt := 40) hx hb dX8_nextOf_34 (by decide) (fun c_9 => ?_) (fun c_9 => ?_)
        · have fc_9 : r_6.toInt ≠ 0 := zf_ne c_9 rfl (by decide)
          have htl9 : (gta i_7.toNatClampNeg).toInt ≤ nse.toInt := (hsr_6_0.mp (by omega)).2
          refine lv_aload_n hx hb dX8_nextOf_40 rfl (lv_at hl 3 rfl) ?_
          refine lv_iload hx hb dX8_nextOf_41 (lv_at hl 0 rfl) ?_
          refine lv_iload_n hx hb dX8_nextOf_43 rfl (lv_at hl 4 rfl) ?_
          refine lv_aload_n hx hb dX8_nextOf_44 rfl (lv_at hl 3 rfl) ?_
          refine va_get (D := D) (ci := 8) (v := .int nde) (C := RX8) (T := TX8) (N := 38) hx hb hts hi_X8_nextOf_8 hown hK hP 0 rfl rfl 3 (by decide) (hts (.fieldLink RX8 115 "TheLiningsInItModel" "depth" "I") (List.mem_of_getElem? (i := 2) rfl)) (fun _ h9 => h9) rfl dX8_nextOf_45 ?_
          refine lv_aload_n hx hb dX8_nextOf_48 rfl (lv_at hl 3 rfl) ?_
          refine va_get (D := D) (ci := 8) (v := .int nse) (C := RX8) (T := TX8) (N := 38) hx hb hts hi_X8_nextOf_8 hown hK hP 0 rfl rfl 5 (by decide) (hts (.fieldLink RX8 13 "TheLiningsInItModel" "seconds" "I") (List.mem_of_getElem? (i := 3) rfl)) (fun _ h9 => h9) rfl dX8_nextOf_49 ?_
          refine lv_iconst (v := 0) hx hb dX8_nextOf_52 (by decide) ?_
          have kc0 : (0 : Int32).toInt = 0 := by decide
          refine zc_V (As := [.int i_7, .int 1, .int nde, .int nse, .int 0]) (rest := []) ⟨hx, hb, hml, hown, hts⟩ (c_F_M_casesBy_1 l D cI cJ cZ cP cS po m0 mrf mki mpa mta mla msl mco mhe mso msi msh mce mca mwo mnu mte mwa mke mma mth mtr (npu) (nte) (nat_) (nde) (nto) (nse) (nhu) (nga) (nsd) (nfa) (nba) (npl) (nen) (nnu) (nwr) (nra) (nik) gki gpa gta (i_7) (nde) (nse) (0) hy0 hy1 hy2 hy3 hy4 hy5 hy6 hy7 hy8 hy9 hy10 hy11 hy12 hy13 (by omega) (by omega) hy6 hy7 hy14 hy15 (by omega) (by omega) (by first | assumption | omega) hp_gki hp_gpa hp_gta) (cwV 5 hts gX8_nextOf_X8_casesBy rfl rfl rfl ⟨rfl, dh_X8_casesBy⟩ ⟨Nat.le_of_ble_eq_true rfl, Nat.le_of_ble_eq_true rfl⟩) hK hN hZ hP (hP.sub [0, 1, 2, 3] rfl) (va_recv (q := (RX8, TX8, 38)) hK hP (ci := 8) (q0 := 0) rfl rfl) rfl hl.1 rfl (Nat.le_of_ble_eq_true rfl) dX8_nextOf_53 ⟨Nat.le_of_ble_eq_true rfl, Nat.le_of_ble_eq_true rfl⟩ (fun r_10 hr_10 => ?_)
          obtain ⟨g_11, g_12, hsr_10_0⟩ := hr_10
          refine lv_istore (lv' := [(5, .int r_10), (4, .int i_7), (3, .int v_2), (2, .int v_1), (0, .ref m0), (1, .int 1)]) hx hb dX8_nextOf_56 hl (by decide) rfl (fun ls hl => ?_)
          refine lv_iload_n hx hb dX8_nextOf_58 rfl (lv_at hl 3 rfl) ?_
          refine lv_iconst (v := (-1)) hx hb dX8_nextOf_59 (by decide) ?_
          refine lv_icmp_eq (tgt := 72) hx hb dX8_nextOf_60 (by decide) (fun c_13 => ?_) (fun c_13 => ?_)
          · have fc_13 : v_1.toInt = (-1) := zf_eq c_13 rfl (by decide)
            refine lv_iload hx hb dX8_nextOf_72 (lv_at hl 1 rfl) ?_
            refine lv_istore_n (lv' := [(2, .int i_7), (5, .int r_10), (4, .int i_7), (3, .int v_2), (0, .ref m0), (1, .int 1)]) hx hb dX8_nextOf_74 rfl hl (by decide) rfl (fun ls hl => ?_)
            refine lv_iload hx hb dX8_nextOf_75 (lv_at hl 1 rfl) ?_
            refine lv_istore_n (lv' := [(3, .int r_10), (2, .int i_7), (5, .int r_10), (4, .int i_7), (0, .ref m0), (1, .int 1)]) hx hb dX8_nextOf_77 rfl hl (by decide) rfl (fun ls hl => ?_)
            obtain ⟨x_14, ex_14⟩ : ∃ y : Int32, y = i_7 + 1 := ⟨_, rfl⟩
            have qx_14 : x_14.toInt = i_7.toInt + 1 := dw_inc ex_14 fc_4
            refine lv_iinc (v := x_14) (lv' := [(4, .int x_14), (3, .int r_10), (2, .int i_7), (5, .int r_10), (0, .ref m0), (1, .int 1)]) hx hb dX8_nextOf_78 hl (k := 3) rfl ex_14.symm (by decide) rfl (fun ls hl => ?_)
            refine lv_goto (tgt := 7) hx hb dX8_nextOf_81 (by decide) ?_
            exact ih x_14 i_7 r_10 _ (lv_sub hl [0, 1, 2, 4, 5] rfl) ⟨by omega, by omega⟩ ⟨by omega, by omega⟩ (show (i_7 : Int32).toInt = zNg gki gta 1 nde.toInt nse.toInt (zBy (zM gki gpa gta npu.toInt.toNat nhu.toInt 1 0) gki gpa gta nhu.toInt nde.toInt nse.toInt) x_14.toInt.toNat from by (have hx : x_14.toInt.toNat = i_7.toInt.toNat + 1 := (by omega); have y9 : i_7.toNatClampNeg = i_7.toInt.toNat := rfl; have hm := hsr_6_0; rw [y9] at hm; have z2 := hvi_7_1; have ok : zOk gki gta 1 nde.toInt nse.toInt i_7.toInt.toNat := ⟨(hm.mp (by omega)).1, (hm.mp (by omega)).2, Or.inl (by decide)⟩; have zr := hsr_10_0; rw [y9, show (if (0 : Int32).toInt = 0 then (1 : Int) else 0) = 1 from by decide] at zr; have zr2 : r_10.toInt = (zBy (zM gki gpa gta npu.toInt.toNat nhu.toInt 1 0) gki gpa gta nhu.toInt nde.toInt nse.toInt) i_7.toInt.toNat := zr; rw [hx]; first | (rw [zNg_y ok (by rw [← hvi_7_0]; rcases z2 with z2 | z2; (exact Or.inl (by omega)); (first | exact Or.inl (by omega) | exact Or.inr (by omega)))]; omega) | (rw [zNg_n (by rintro ⟨-, z3⟩; rw [← hvi_7_0] at z3; rcases z2 with z2 | z2; (omega); (rcases z3 with z3 | z3; (omega); (omega)))]; exact hvi_7_0))) (show ((i_7 : Int32).toInt = -1 ∨ (0 ≤ (i_7 : Int32).toInt ∧ (r_10 : Int32).toInt = (zBy (zM gki gpa gta npu.toInt.toNat nhu.toInt 1 0) gki gpa gta nhu.toInt nde.toInt nse.toInt) (i_7 : Int32).toInt.toNat)) from by (have hx : x_14.toInt.toNat = i_7.toInt.toNat + 1 := (by omega); have y9 : i_7.toNatClampNeg = i_7.toInt.toNat := rfl; have hm := hsr_6_0; rw [y9] at hm; have z2 := hvi_7_1; have ok : zOk gki gta 1 nde.toInt nse.toInt i_7.toInt.toNat := ⟨(hm.mp (by omega)).1, (hm.mp (by omega)).2, Or.inl (by decide)⟩; have zr := hsr_10_0; rw [y9, show (if (0 : Int32).toInt = 0 then (1 : Int) else 0) = 1 from by decide] at zr; have zr2 : r_10.toInt = (zBy (zM gki gpa gta npu.toInt.toNat nhu.toInt 1 0) gki gpa gta nhu.toInt nde.toInt nse.toInt) i_7.toInt.toNat := zr; first | exact hvi_7_1 | (refine Or.inr ⟨by omega, ?_⟩; rw [← zr2]))) (show x_14.toInt ≤ npu.toInt ∧ (i_7 : Int32).toInt < x_14.toInt from by exact ⟨by omega, by omega⟩) (dw_lo hloi_7 qx_14) (dw_hn hni_7 qx_14)
          · have fc_13 : v_1.toInt ≠ (-1) := zf_ne c_13 rfl (by decide)
            refine lv_iload hx hb dX8_nextOf_63 (lv_at hl 0 rfl) ?_
            refine lv_iload_n hx hb dX8_nextOf_65 rfl (lv_at hl 2 rfl) ?_
            refine lv_icmp_gt (tgt := 72) hx hb dX8_nextOf_66 (by decide) (fun c_15 => ?_) (fun c_15 => ?_)
            · have fc_15 : v_2.toInt < r_10.toInt := zf_lt c_15 rfl rfl
              refine lv_iload hx hb dX8_nextOf_72 (lv_at hl 1 rfl) ?_
              refine lv_istore_n (lv' := [(2, .int i_7), (5, .int r_10), (4, .int i_7), (3, .int v_2), (0, .ref m0), (1, .int 1)]) hx hb dX8_nextOf_74 rfl hl (by decide) rfl (fun ls hl => ?_)
              refine lv_iload hx hb dX8_nextOf_75 (lv_at hl 1 rfl) ?_
              refine lv_istore_n (lv' := [(3, .int r_10), (2, .int i_7), (5, .int r_10), (4, .int i_7), (0, .ref m0), (1, .int 1)]) hx hb dX8_nextOf_77 rfl hl (by decide) rfl (fun ls hl => ?_)
              obtain ⟨x_16, ex_16⟩ : ∃ y : Int32, y = i_7 + 1 := ⟨_, rfl⟩
              have qx_16 : x_16.toInt = i_7.toInt + 1 := dw_inc ex_16 fc_4
              refine lv_iinc (v := x_16) (lv' := [(4, .int x_16), (3, .int r_10), (2, .int i_7), (5, .int r_10), (0, .ref m0), (1, .int 1)]) hx hb dX8_nextOf_78 hl (k := 3) rfl ex_16.symm (by decide) rfl (fun ls hl => ?_)
              refine lv_goto (tgt := 7) hx hb dX8_nextOf_81 (by decide) ?_
              exact ih x_16 i_7 r_10 _ (lv_sub hl [0, 1, 2, 4, 5] rfl) ⟨by omega, by omega⟩ ⟨by omega, by omega⟩ (show (i_7 : Int32).toInt = zNg gki gta 1 nde.toInt nse.toInt (zBy (zM gki gpa gta npu.toInt.toNat nhu.toInt 1 0) gki gpa gta nhu.toInt nde.toInt nse.toInt) x_16.toInt.toNat from by (have hx : x_16.toInt.toNat = i_7.toInt.toNat + 1 := (by omega); have y9 : i_7.toNatClampNeg = i_7.toInt.toNat := rfl; have hm := hsr_6_0; rw [y9] at hm; have z2 := hvi_7_1; have ok : zOk gki gta 1 nde.toInt nse.toInt i_7.toInt.toNat := ⟨(hm.mp (by omega)).1, (hm.mp (by omega)).2, Or.inl (by decide)⟩; have zr := hsr_10_0; rw [y9, show (if (0 : Int32).toInt = 0 then (1 : Int) else 0) = 1 from by decide] at zr; have zr2 : r_10.toInt = (zBy (zM gki gpa gta npu.toInt.toNat nhu.toInt 1 0) gki gpa gta nhu.toInt nde.toInt nse.toInt) i_7.toInt.toNat := zr; rw [hx]; first | (rw [zNg_y ok (by rw [← hvi_7_0]; rcases z2 with z2 | z2; (exact Or.inl (by omega)); (first | exact Or.inl (by omega) | exact Or.inr (by omega)))]; omega) | (rw [zNg_n (by rintro ⟨-, z3⟩; rw [← hvi_7_0] at z3; rcases z2 with z2 | z2; (omega); (rcases z3 with z3 | z3; (omega); (omega)))]; exact hvi_7_0))) (show ((i_7 : Int32).toInt = -1 ∨ (0 ≤ (i_7 : Int32).toInt ∧ (r_10 : Int32).toInt = (zBy (zM gki gpa gta npu.toInt.toNat nhu.toInt 1 0) gki gpa gta nhu.toInt nde.toInt nse.toInt) (i_7 : Int32).toInt.toNat)) from by (have hx : x_16.toInt.toNat = i_7.toInt.toNat + 1 := (by omega); have y9 : i_7.toNatClampNeg = i_7.toInt.toNat := rfl; have hm := hsr_6_0; rw [y9] at hm; have z2 := hvi_7_1; have ok : zOk gki gta 1 nde.toInt nse.toInt i_7.toInt.toNat := ⟨(hm.mp (by omega)).1, (hm.mp (by omega)).2, Or.inl (by decide)⟩; have zr := hsr_10_0; rw [y9, show (if (0 : Int32).toInt = 0 then (1 : Int) else 0) = 1 from by decide] at zr; have zr2 : r_10.toInt = (zBy (zM gki gpa gta npu.toInt.toNat nhu.toInt 1 0) gki gpa gta nhu.toInt nde.toInt nse.toInt) i_7.toInt.toNat := zr; first | exact hvi_7_1 | (refine Or.inr ⟨by omega, ?_⟩; rw [← zr2]))) (show x_16.toInt ≤ npu.toInt ∧ (i_7 : Int32).toInt < x_16.toInt from by exact ⟨by omega, by omega⟩) (dw_lo hloi_7 qx_16) (dw_hn hni_7 qx_16)
            · have fc_15 : r_10.toInt ≤ v_2.toInt := zf_nlt c_15 rfl rfl
              refine lv_goto (tgt := 78) hx hb dX8_nextOf_69 (by decide) ?_
              obtain ⟨x_17, ex_17⟩ : ∃ y : Int32, y = i_7 + 1 := ⟨_, rfl⟩
              have qx_17 : x_17.toInt = i_7.toInt + 1 := dw_inc ex_17 fc_4
              refine lv_iinc (v := x_17) (lv' := [(4, .int x_17), (5, .int r_10), (3, .int v_2), (2, .int v_1), (0, .ref m0), (1, .int 1)]) hx hb dX8_nextOf_78 hl (k := 1) rfl ex_17.symm (by decide) rfl (fun ls hl => ?_)
              refine lv_goto (tgt := 7) hx hb dX8_nextOf_81 (by decide) ?_
              exact ih x_17 v_1 v_2 _ (lv_sub hl [0, 2, 3, 4, 5] rfl) hbv_1 hbv_2 (show (v_1 : Int32).toInt = zNg gki gta 1 nde.toInt nse.toInt (zBy (zM gki gpa gta npu.toInt.toNat nhu.toInt 1 0) gki gpa gta nhu.toInt nde.toInt nse.toInt) x_17.toInt.toNat from by (have hx : x_17.toInt.toNat = i_7.toInt.toNat + 1 := (by omega); have y9 : i_7.toNatClampNeg = i_7.toInt.toNat := rfl; have hm := hsr_6_0; rw [y9] at hm; have z2 := hvi_7_1; have ok : zOk gki gta 1 nde.toInt nse.toInt i_7.toInt.toNat := ⟨(hm.mp (by omega)).1, (hm.mp (by omega)).2, Or.inl (by decide)⟩; have zr := hsr_10_0; rw [y9, show (if (0 : Int32).toInt = 0 then (1 : Int) else 0) = 1 from by decide] at zr; have zr2 : r_10.toInt = (zBy (zM gki gpa gta npu.toInt.toNat nhu.toInt 1 0) gki gpa gta nhu.toInt nde.toInt nse.toInt) i_7.toInt.toNat := zr; rw [hx]; first | (rw [zNg_y ok (by rw [← hvi_7_0]; rcases z2 with z2 | z2; (exact Or.inl (by omega)); (first | exact Or.inl (by omega) | exact Or.inr (by omega)))]; omega) | (rw [zNg_n (by rintro ⟨-, z3⟩; rw [← hvi_7_0] at z3; rcases z2 with z2 | z2; (omega); (rcases z3 with z3 | z3; (omega); (omega)))]; exact hvi_7_0))) (show ((v_1 : Int32).toInt = -1 ∨ (0 ≤ (v_1 : Int32).toInt ∧ (v_2 : Int32).toInt = (zBy (zM gki gpa gta npu.toInt.toNat nhu.toInt 1 0) gki gpa gta nhu.toInt nde.toInt nse.toInt) (v_1 : Int32).toInt.toNat)) from by (have hx : x_17.toInt.toNat = i_7.toInt.toNat + 1 := (by omega); have y9 : i_7.toNatClampNeg = i_7.toInt.toNat := rfl; have hm := hsr_6_0; rw [y9] at hm; have z2 := hvi_7_1; have ok : zOk gki gta 1 nde.toInt nse.toInt i_7.toInt.toNat := ⟨(hm.mp (by omega)).1, (hm.mp (by omega)).2, Or.inl (by decide)⟩; have zr := hsr_10_0; rw [y9, show (if (0 : Int32).toInt = 0 then (1 : Int) else 0) = 1 from by decide] at zr; have zr2 : r_10.toInt = (zBy (zM gki gpa gta npu.toInt.toNat nhu.toInt 1 0) gki gpa gta nhu.toInt nde.toInt nse.toInt) i_7.toInt.toNat := zr; first | exact hvi_7_1 | (refine Or.inr ⟨by omega, ?_⟩; rw [← zr2]))) (show x_17.toInt ≤ npu.toInt ∧ (v_1 : Int32).toInt < x_17.toInt from by exact ⟨by omega, by omega⟩) (dw_lo hloi_7 qx_17) (dw_hn hni_7 qx_17)
        · have fc_9 : r_6.toInt = 0 := zf_eq c_9 rfl (by decide)
          refine lv_goto (tgt := 78) hx hb dX8_nextOf_37 (by decide) ?_
          obtain ⟨x_18, ex_18⟩ : ∃ y : Int32, y = i_7 + 1 := ⟨_, rfl⟩
          have qx_18 : x_18.toInt = i_7.toInt + 1 := dw_inc ex_18 fc_4
          refine lv_iinc (v := x_18) (lv' := [(4, .int x_18), (3, .int v_2), (2, .int v_1), (0, .ref m0), (1, .int 1)]) hx hb dX8_nextOf_78 hl (k := 0) rfl ex_18.symm (by decide) rfl (fun ls hl => ?_)
          refine lv_goto (tgt := 7) hx hb dX8_nextOf_81 (by decide) ?_
          exact ih x_18 v_1 v_2 _ (lv_sub hl [0, 1, 2, 3, 4] rfl) hbv_1 hbv_2 (show (v_1 : Int32).toInt = zNg gki gta 1 nde.toInt nse.toInt (zBy (zM gki gpa gta npu.toInt.toNat nhu.toInt 1 0) gki gpa gta nhu.toInt nde.toInt nse.toInt) x_18.toInt.toNat from by (have hx : x_18.toInt.toNat = i_7.toInt.toNat + 1 := (by omega); have y9 : i_7.toNatClampNeg = i_7.toInt.toNat := rfl; have hm := hsr_6_0; rw [y9] at hm; have z2 := hvi_7_1; have no : ¬ zOk gki gta 1 nde.toInt nse.toInt i_7.toInt.toNat := (fun z => by (have z1 := hm.mpr ⟨z.1, z.2.1⟩; omega)); rw [hx, zNg_n (fun z => no z.1)]; exact hvi_7_0)) (show ((v_1 : Int32).toInt = -1 ∨ (0 ≤ (v_1 : Int32).toInt ∧ (v_2 : Int32).toInt = (zBy (zM gki gpa gta npu.toInt.toNat nhu.toInt 1 0) gki gpa gta nhu.toInt nde.toInt nse.toInt) (v_1 : Int32).toInt.toNat)) from by exact hvi_7_1) (show x_18.toInt ≤ npu.toInt ∧ (v_1 : Int32).toInt < x_18.toInt from by exact ⟨by omega, by omega⟩) (dw_lo hloi_7 qx_18) (dw_hn hni_7 qx_18)
set_option maxHeartbeats 4000000 in
set_option maxRecDepth 100000 in
theorem c_F_M_nextOf_2 (l : Launch) (D : va_G) (cI cJ cZ cP cS : ClassId) (po : zPool) (m0 mrf mki mpa mta mla msl mco mhe mso msi msh mce mca mwo mnu mte mwa mke mma mth mtr : Nat) (npu nte nat_ nde nto nse nhu nga nsd nfa nba npl nen nnu nwr nra nik : Int32) (gki gpa gta : Nat → Int32) (hy0 : 0 ≤ npu.toInt) (hy1 : npu.toInt ≤ 8) (hy2 : 4 ≤ nte.toInt) (hy3 : nte.toInt ≤ 40) (hy4 : 0 ≤ nat_.toInt) (hy5 : nat_.toInt ≤ 40) (hy6 : 0 ≤ nde.toInt) (hy7 : nde.toInt ≤ 24) (hy8 : 0 ≤ nhu.toInt) (hy9 : nhu.toInt ≤ 9) (hy10 : 0 ≤ nra.toInt) (hy11 : nra.toInt ≤ 2000) (hy12 : 0 ≤ nik.toInt) (hy13 : nik.toInt ≤ 1) (hy14 : 0 ≤ nse.toInt) (hy15 : nse.toInt ≤ 300) (hp_gki : zRg gki (0) 6) (hp_gpa : zRg gpa (0) 9) (hp_gta : zRg gta (0) 60) : Met l yX8_nextOf wsX8_nextOf ({ frames := 5, cells := 0, slots := 0, locals := 129 }) (va_Pc [.ref m0, .int 2] (zR D (zKT cI cJ cZ cP cS) po [(zMO m0 npu nte nat_ nde nto nse nhu nga nsd nfa mrf mki mpa mta mla msl mco mhe mso msi msh mce mca mwo mnu mte nba npl nen nnu nwr mwa mke mma mth mtr nra nik), (mki, .inl (cI, 8, .inl gki)), (mpa, .inl (cI, 8, .inl gpa)), (mta, .inl (cI, 8, .inl gta))])) (vp_Si (fun r => -1 ≤ r.toInt ∧ r.toInt ≤ 7 ∧ (r.toInt = zNq gki gpa gta npu.toInt.toNat nhu.toInt 2 nde.toInt nse.toInt))) 0 0 (fun _ => False) := by
  refine Met.ofW (cc := cX8_nextOf) (maxL := 6) (ret := (some .int)) (by decide) rfl ?_
  intro p e s m args below meth c s₁ B hml hv
  obtain ⟨rfl, hP, hK, hN, hZ⟩ := hv
  have hx := B.exec
  have hb := B.bytes
  have hr := B.returns
  have hts := atoms_spec (ws := wsX8_nextOf) B.pre
  have hown : s.vm.findClass RX8 = some m.cls := findClass_of_methodNamed B.named
  have hlocks := B.notSynchronized
  have hl := lv_entry ([.ref m0, .int 2]) (n := 6) (Nat.le_of_ble_eq_true rfl)
  rw [lg_entry_eq]
  generalize (lg_sl ([.ref m0, .int 2]) ++ List.replicate (6 - (lg_sl ([.ref m0, .int 2])).length) Slot.unset).toArray = ls at hl ⊢
  replace hl : lv_has ls 6 [(0, .ref m0), (1, .int 2)] := hl
  refine lv_iconst (v := (-1)) hx hb dX8_nextOf_0 (by decide) ?_
  refine lv_istore_n (lv' := [(2, .int (-1)), (0, .ref m0), (1, .int 2)]) hx hb dX8_nextOf_1 rfl hl (by decide) rfl (fun ls hl => ?_)
  refine lv_iconst (v := 0) hx hb dX8_nextOf_2 (by decide) ?_
  refine lv_istore_n (lv' := [(3, .int 0), (2, .int (-1)), (0, .ref m0), (1, .int 2)]) hx hb dX8_nextOf_3 rfl hl (by decide) rfl (fun ls hl => ?_)
  refine lv_iconst (v := 0) hx hb dX8_nextOf_4 (by decide) ?_
  refine lv_istore (lv' := [(4, .int 0), (3, .int 0), (2, .int (-1)), (0, .ref m0), (1, .int 2)]) hx hb dX8_nextOf_5 hl (by decide) rfl (fun ls hl => ?_)
  obtain ⟨i_7, hi_7⟩ : ∃ i : Int32, i = 0 := ⟨_, rfl⟩
  replace hl : lv_has ls 6 [(4, .int i_7), (3, .int 0), (2, .int (-1)), (0, .ref m0), (1, .int 2)] := by rw [hi_7]; exact lv_sub hl [0, 1, 2, 3, 4] rfl
  have h1i_7 : i_7.toInt = 0 := by rw [hi_7]; decide
  obtain ⟨nfu, hni_7⟩ : ∃ nq9 : Nat, npu.toInt ≤ i_7.toInt + (nq9 : Int) := ⟨((npu.toInt : Int) - 0).toNat, by omega⟩
  have hloi_7 : 0 ≤ i_7.toInt := by omega
  obtain ⟨v_1, hv_1⟩ : ∃ g : Int32, g = (-1) := ⟨_, rfl⟩
  obtain ⟨v_2, hv_2⟩ : ∃ g : Int32, g = 0 := ⟨_, rfl⟩
  replace hl : lv_has ls 6 [(4, .int i_7), (3, .int v_2), (2, .int v_1), (0, .ref m0), (1, .int 2)] := by rw [hv_1, hv_2]; exact hl
  have hbv_1 : -1 ≤ v_1.toInt ∧ v_1.toInt ≤ 7 := by rw [hv_1]; exact ⟨by decide, by decide⟩
  have hbv_2 : 0 ≤ v_2.toInt ∧ v_2.toInt ≤ 144 := by rw [hv_2]; exact ⟨by decide, by decide⟩
  have hvi_7_0 : (v_1 : Int32).toInt = zNg gki gta 1 nde.toInt nse.toInt (zBy (zM gki gpa gta npu.toInt.toNat nhu.toInt 1 1) gki gpa gta nhu.toInt nde.toInt nse.toInt) i_7.toInt.toNat := by
    (try rw [hi_7]); (try rw [hv_1]); (try rw [hv_2]); (rw [(show ((0 : Int32).toInt.toNat) = 0 from by decide)]; show _ = (-1 : Int); decide)
  have hvi_7_1 : ((v_1 : Int32).toInt = -1 ∨ (0 ≤ (v_1 : Int32).toInt ∧ (v_2 : Int32).toInt = (zBy (zM gki gpa gta npu.toInt.toNat nhu.toInt 1 1) gki gpa gta nhu.toInt nde.toInt nse.toInt) (v_1 : Int32).toInt.toNat)) := by
    (try rw [hi_7]); (try rw [hv_1]); (try rw [hv_2]); (exact Or.inl (by decide))
  have hvi_7_2 : i_7.toInt ≤ npu.toInt ∧ (v_1 : Int32).toInt < i_7.toInt := by
    (try rw [hi_7]); (try rw [hv_1]); (try rw [hv_2]); (have k0 : (0 : Int32).toInt = 0 := (by decide); have km : ((-1) : Int32).toInt = -1 := (by decide); omega)
  clear h1i_7 hi_7 hv_1 hv_2
  revert hni_7
  revert hloi_7
  revert hvi_7_2
  revert hvi_7_1
  revert hvi_7_0
  revert hbv_2
  revert hbv_1
  revert hl
  revert ls
  revert v_2
  revert v_1
  revert i_7
  induction nfu with
  | zero =>
    intro i_7 v_1 v_2 ls hl hbv_1 hbv_2 hvi_7_0 hvi_7_1 hvi_7_2 hloi_7 hni_7
    have hzi_7 : npu.toInt ≤ i_7.toInt := by omega
    refine lv_iload hx hb dX8_nextOf_7 (lv_at hl 0 rfl) ?_
    refine lv_aload_n hx hb dX8_nextOf_9 rfl (lv_at hl 3 rfl) ?_
    refine va_get (D := D) (ci := 8) (v := .int npu) (C := RX8) (T := TX8) (N := 38) hx hb hts hi_X8_nextOf_8 hown hK hP 0 rfl rfl 0 (by decide) (hts (.fieldLink RX8 90 "TheLiningsInItModel" "pulls" "I") (List.mem_of_getElem? (i := 1) rfl)) (fun _ h9 => h9) rfl dX8_nextOf_10 ?_
    refine lv_icmp_ge (tgt := 84) hx hb dX8_nextOf_13 (by decide) (fun c_3 => ?_) (fun c_3 => ?_)
    · have fc_3 : npu.toInt ≤ i_7.toInt := zf_le c_3 rfl rfl
      refine lv_iload_n hx hb dX8_nextOf_84 rfl (lv_at hl 2 rfl) ?_
      exact W.iret (v := v_1) hx hb hr (fun t ht hW => ⟨v_1, rfl, ⟨by omega, by omega, (show (v_1 : Int32).toInt = zNq gki gpa gta npu.toInt.toNat nhu.toInt 2 nde.toInt nse.toInt from by (have h9 : i_7.toInt.toNat = npu.toInt.toNat := (by omega); have z := hvi_7_0; rw [h9] at z; unfold zNq; rw [if_neg (by decide), show ((2 : Int) - 1).toNat = 1 from by decide]; exact z))⟩, ht⟩) (fun q hq => by cases hq) dX8_nextOf_85
    · exfalso; have fc_3 : i_7.toInt < npu.toInt := zf_nle c_3 rfl rfl; omega
  | succ nfu ih =>
    intro i_7 v_1 v_2 ls hl hbv_1 hbv_2 hvi_7_0 hvi_7_1 hvi_7_2 hloi_7 hni_7
    refine lv_iload hx hb dX8_nextOf_7 (lv_at hl 0 rfl) ?_
    refine lv_aload_n hx hb dX8_nextOf_9 rfl (lv_at hl 3 rfl) ?_
    refine va_get (D := D) (ci := 8) (v := .int npu) (C := RX8) (T := TX8) (N := 38) hx hb hts hi_X8_nextOf_8 hown hK hP 0 rfl rfl 0 (by decide) (hts (.fieldLink RX8 90 "TheLiningsInItModel" "pulls" "I") (List.mem_of_getElem? (i := 1) rfl)) (fun _ h9 => h9) rfl dX8_nextOf_10 ?_
    refine lv_icmp_ge (tgt := 84) hx hb dX8_nextOf_13 (by decide) (fun c_4 => ?_) (fun c_4 => ?_)
    · have fc_4 : npu.toInt ≤ i_7.toInt := zf_le c_4 rfl rfl
      refine lv_iload_n hx hb dX8_nextOf_84 rfl (lv_at hl 2 rfl) ?_
      exact W.iret (v := v_1) hx hb hr (fun t ht hW => ⟨v_1, rfl, ⟨by omega, by omega, (show (v_1 : Int32).toInt = zNq gki gpa gta npu.toInt.toNat nhu.toInt 2 nde.toInt nse.toInt from by (have h9 : i_7.toInt.toNat = npu.toInt.toNat := (by omega); have z := hvi_7_0; rw [h9] at z; unfold zNq; rw [if_neg (by decide), show ((2 : Int) - 1).toNat = 1 from by decide]; exact z))⟩, ht⟩) (fun q hq => by cases hq) dX8_nextOf_85
    · have fc_4 : i_7.toInt < npu.toInt := zf_nle c_4 rfl rfl
      refine lv_iload_n hx hb dX8_nextOf_16 rfl (lv_at hl 4 rfl) ?_
      refine lv_if_le (tgt := 84) hx hb dX8_nextOf_17 (by decide) (fun c_5 => ?_) (fun c_5 => ?_)
      · exact absurd c_5 (by decide)
      · refine lv_aload_n hx hb dX8_nextOf_20 rfl (lv_at hl 3 rfl) ?_
        refine lv_iload hx hb dX8_nextOf_21 (lv_at hl 0 rfl) ?_
        refine lv_aload_n hx hb dX8_nextOf_23 rfl (lv_at hl 3 rfl) ?_
        refine va_get (D := D) (ci := 8) (v := .int nde) (C := RX8) (T := TX8) (N := 38) hx hb hts hi_X8_nextOf_8 hown hK hP 0 rfl rfl 3 (by decide) (hts (.fieldLink RX8 115 "TheLiningsInItModel" "depth" "I") (List.mem_of_getElem? (i := 2) rfl)) (fun _ h9 => h9) rfl dX8_nextOf_24 ?_
        refine lv_aload_n hx hb dX8_nextOf_27 rfl (lv_at hl 3 rfl) ?_
        refine va_get (D := D) (ci := 8) (v := .int nse) (C := RX8) (T := TX8) (N := 38) hx hb hts hi_X8_nextOf_8 hown hK hP 0 rfl rfl 5 (by decide) (hts (.fieldLink RX8 13 "TheLiningsInItModel" "seconds" "I") (List.mem_of_getElem? (i := 3) rfl)) (fun _ h9 => h9) rfl dX8_nextOf_28 ?_
        refine zc_V (As := [.int i_7, .int nde, .int nse]) (rest := []) ⟨hx, hb, hml, hown, hts⟩ (c_F_M_mayBe l D cI cJ cZ cP cS po m0 mrf mki mpa mta mla msl mco mhe mso msi msh mce mca mwo mnu mte mwa mke mma mth mtr (npu) (nte) (nat_) (nde) (nto) (nse) (nhu) (nga) (nsd) (nfa) (nba) (npl) (nen) (nnu) (nwr) (nra) (nik) gta (i_7) (nde) (nse) hy0 hy1 hy2 hy3 hy4 hy5 hy6 hy7 hy8 hy9 hy10 hy11 hy12 hy13 (by omega) (by omega) hp_gta) (cwV 3 hts gX8_nextOf_X8_mayBe rfl rfl rfl ⟨rfl, dh_X8_mayBe⟩ ⟨Nat.le_of_ble_eq_true rfl, Nat.le_of_ble_eq_true rfl⟩) hK hN hZ hP (hP.sub [0, 3] rfl) (va_recv (q := (RX8, TX8, 38)) hK hP (ci := 8) (q0 := 0) rfl rfl) rfl hl.1 rfl (Nat.le_of_ble_eq_true rfl) dX8_nextOf_31 ⟨Nat.le_of_ble_eq_true rfl, Nat.le_of_ble_eq_true rfl⟩ (fun r_6 hr_6 => ?_)
        obtain ⟨g_7, g_8, hsr_6_0⟩ := hr_6
        refine lv_if_ne (tgt := 40) hx hb dX8_nextOf_34 (by decide) (fun c_9 => ?_) (fun c_9 => ?_)
        · have fc_9 : r_6.toInt ≠ 0 := zf_ne c_9 rfl (by decide)
          have htl9 : (gta i_7.toNatClampNeg).toInt ≤ nse.toInt := (hsr_6_0.mp (by omega)).2
          refine lv_aload_n hx hb dX8_nextOf_40 rfl (lv_at hl 3 rfl) ?_
          refine lv_iload hx hb dX8_nextOf_41 (lv_at hl 0 rfl) ?_
          refine lv_iload_n hx hb dX8_nextOf_43 rfl (lv_at hl 4 rfl) ?_
          refine lv_aload_n hx hb dX8_nextOf_44 rfl (lv_at hl 3 rfl) ?_
          refine va_get (D := D) (ci := 8) (v := .int nde) (C := RX8) (T := TX8) (N := 38) hx hb hts hi_X8_nextOf_8 hown hK hP 0 rfl rfl 3 (by decide) (hts (.fieldLink RX8 115 "TheLiningsInItModel" "depth" "I") (List.mem_of_getElem? (i := 2) rfl)) (fun _ h9 => h9) rfl dX8_nextOf_45 ?_
          refine lv_aload_n hx hb dX8_nextOf_48 rfl (lv_at hl 3 rfl) ?_
          refine va_get (D := D) (ci := 8) (v := .int nse) (C := RX8) (T := TX8) (N := 38) hx hb hts hi_X8_nextOf_8 hown hK hP 0 rfl rfl 5 (by decide) (hts (.fieldLink RX8 13 "TheLiningsInItModel" "seconds" "I") (List.mem_of_getElem? (i := 3) rfl)) (fun _ h9 => h9) rfl dX8_nextOf_49 ?_
          refine lv_iconst (v := 0) hx hb dX8_nextOf_52 (by decide) ?_
          have kc0 : (0 : Int32).toInt = 0 := by decide
          refine zc_V (As := [.int i_7, .int 2, .int nde, .int nse, .int 0]) (rest := []) ⟨hx, hb, hml, hown, hts⟩ (c_F_M_casesBy_2 l D cI cJ cZ cP cS po m0 mrf mki mpa mta mla msl mco mhe mso msi msh mce mca mwo mnu mte mwa mke mma mth mtr (npu) (nte) (nat_) (nde) (nto) (nse) (nhu) (nga) (nsd) (nfa) (nba) (npl) (nen) (nnu) (nwr) (nra) (nik) gki gpa gta (i_7) (nde) (nse) (0) hy0 hy1 hy2 hy3 hy4 hy5 hy6 hy7 hy8 hy9 hy10 hy11 hy12 hy13 (by omega) (by omega) hy6 hy7 hy14 hy15 (by omega) (by omega) (by first | assumption | omega) hp_gki hp_gpa hp_gta) (cwV 5 hts gX8_nextOf_X8_casesBy rfl rfl rfl ⟨rfl, dh_X8_casesBy⟩ ⟨Nat.le_of_ble_eq_true rfl, Nat.le_of_ble_eq_true rfl⟩) hK hN hZ hP (hP.sub [0, 1, 2, 3] rfl) (va_recv (q := (RX8, TX8, 38)) hK hP (ci := 8) (q0 := 0) rfl rfl) rfl hl.1 rfl (Nat.le_of_ble_eq_true rfl) dX8_nextOf_53 ⟨Nat.le_of_ble_eq_true rfl, Nat.le_of_ble_eq_true rfl⟩ (fun r_10 hr_10 => ?_)
          obtain ⟨g_11, g_12, hsr_10_0⟩ := hr_10
          refine lv_istore (lv' := [(5, .int r_10), (4, .int i_7), (3, .int v_2), (2, .int v_1), (0, .ref m0), (1, .int 2)]) hx hb dX8_nextOf_56 hl (by decide) rfl (fun ls hl => ?_)
          refine lv_iload_n hx hb dX8_nextOf_58 rfl (lv_at hl 3 rfl) ?_
          refine lv_iconst (v := (-1)) hx hb dX8_nextOf_59 (by decide) ?_
          refine lv_icmp_eq (tgt := 72) hx hb dX8_nextOf_60 (by decide) (fun c_13 => ?_) (fun c_13 => ?_)
          · have fc_13 : v_1.toInt = (-1) := zf_eq c_13 rfl (by decide)
            refine lv_iload hx hb dX8_nextOf_72 (lv_at hl 1 rfl) ?_
            refine lv_istore_n (lv' := [(2, .int i_7), (5, .int r_10), (4, .int i_7), (3, .int v_2), (0, .ref m0), (1, .int 2)]) hx hb dX8_nextOf_74 rfl hl (by decide) rfl (fun ls hl => ?_)
            refine lv_iload hx hb dX8_nextOf_75 (lv_at hl 1 rfl) ?_
            refine lv_istore_n (lv' := [(3, .int r_10), (2, .int i_7), (5, .int r_10), (4, .int i_7), (0, .ref m0), (1, .int 2)]) hx hb dX8_nextOf_77 rfl hl (by decide) rfl (fun ls hl => ?_)
            obtain ⟨x_14, ex_14⟩ : ∃ y : Int32, y = i_7 + 1 := ⟨_, rfl⟩
            have qx_14 : x_14.toInt = i_7.toInt + 1 := dw_inc ex_14 fc_4
            refine lv_iinc (v := x_14) (lv' := [(4, .int x_14), (3, .int r_10), (2, .int i_7), (5, .int r_10), (0, .ref m0), (1, .int 2)]) hx hb dX8_nextOf_78 hl (k := 3) rfl ex_14.symm (by decide) rfl (fun ls hl => ?_)
            refine lv_goto (tgt := 7) hx hb dX8_nextOf_81 (by decide) ?_
            exact ih x_14 i_7 r_10 _ (lv_sub hl [0, 1, 2, 4, 5] rfl) ⟨by omega, by omega⟩ ⟨by omega, by omega⟩ (show (i_7 : Int32).toInt = zNg gki gta 1 nde.toInt nse.toInt (zBy (zM gki gpa gta npu.toInt.toNat nhu.toInt 1 1) gki gpa gta nhu.toInt nde.toInt nse.toInt) x_14.toInt.toNat from by (have hx : x_14.toInt.toNat = i_7.toInt.toNat + 1 := (by omega); have y9 : i_7.toNatClampNeg = i_7.toInt.toNat := rfl; have hm := hsr_6_0; rw [y9] at hm; have z2 := hvi_7_1; have ok : zOk gki gta 1 nde.toInt nse.toInt i_7.toInt.toNat := ⟨(hm.mp (by omega)).1, (hm.mp (by omega)).2, Or.inl (by decide)⟩; have zr := hsr_10_0; rw [y9, show (if (0 : Int32).toInt = 0 then (1 : Int) else 0) = 1 from by decide] at zr; have zr2 : r_10.toInt = (zBy (zM gki gpa gta npu.toInt.toNat nhu.toInt 1 1) gki gpa gta nhu.toInt nde.toInt nse.toInt) i_7.toInt.toNat := zr; rw [hx]; first | (rw [zNg_y ok (by rw [← hvi_7_0]; rcases z2 with z2 | z2; (exact Or.inl (by omega)); (first | exact Or.inl (by omega) | exact Or.inr (by omega)))]; omega) | (rw [zNg_n (by rintro ⟨-, z3⟩; rw [← hvi_7_0] at z3; rcases z2 with z2 | z2; (omega); (rcases z3 with z3 | z3; (omega); (omega)))]; exact hvi_7_0))) (show ((i_7 : Int32).toInt = -1 ∨ (0 ≤ (i_7 : Int32).toInt ∧ (r_10 : Int32).toInt = (zBy (zM gki gpa gta npu.toInt.toNat nhu.toInt 1 1) gki gpa gta nhu.toInt nde.toInt nse.toInt) (i_7 : Int32).toInt.toNat)) from by (have hx : x_14.toInt.toNat = i_7.toInt.toNat + 1 := (by omega); have y9 : i_7.toNatClampNeg = i_7.toInt.toNat := rfl; have hm := hsr_6_0; rw [y9] at hm; have z2 := hvi_7_1; have ok : zOk gki gta 1 nde.toInt nse.toInt i_7.toInt.toNat := ⟨(hm.mp (by omega)).1, (hm.mp (by omega)).2, Or.inl (by decide)⟩; have zr := hsr_10_0; rw [y9, show (if (0 : Int32).toInt = 0 then (1 : Int) else 0) = 1 from by decide] at zr; have zr2 : r_10.toInt = (zBy (zM gki gpa gta npu.toInt.toNat nhu.toInt 1 1) gki gpa gta nhu.toInt nde.toInt nse.toInt) i_7.toInt.toNat := zr; first | exact hvi_7_1 | (refine Or.inr ⟨by omega, ?_⟩; rw [← zr2]))) (show x_14.toInt ≤ npu.toInt ∧ (i_7 : Int32).toInt < x_14.toInt from by exact ⟨by omega, by omega⟩) (dw_lo hloi_7 qx_14) (dw_hn hni_7 qx_14)
          · have fc_13 : v_1.toInt ≠ (-1) := zf_ne c_13 rfl (by decide)
            refine lv_iload hx hb dX8_nextOf_63 (lv_at hl 0 rfl) ?_
            refine lv_iload_n hx hb dX8_nextOf_65 rfl (lv_at hl 2 rfl) ?_
            refine lv_icmp_gt (tgt := 72) hx hb dX8_nextOf_66 (by decide) (fun c_15 => ?_) (fun c_15 => ?_)
            · have fc_15 : v_2.toInt < r_10.toInt := zf_lt c_15 rfl rfl
              refine lv_iload hx hb dX8_nextOf_72 (lv_at hl 1 rfl) ?_
              refine lv_istore_n (lv' := [(2, .int i_7), (5, .int r_10), (4, .int i_7), (3, .int v_2), (0, .ref m0), (1, .int 2)]) hx hb dX8_nextOf_74 rfl hl (by decide) rfl (fun ls hl => ?_)
              refine lv_iload hx hb dX8_nextOf_75 (lv_at hl 1 rfl) ?_
              refine lv_istore_n (lv' := [(3, .int r_10), (2, .int i_7), (5, .int r_10), (4, .int i_7), (0, .ref m0), (1, .int 2)]) hx hb dX8_nextOf_77 rfl hl (by decide) rfl (fun ls hl => ?_)
              obtain ⟨x_16, ex_16⟩ : ∃ y : Int32, y = i_7 + 1 := ⟨_, rfl⟩
              have qx_16 : x_16.toInt = i_7.toInt + 1 := dw_inc ex_16 fc_4
              refine lv_iinc (v := x_16) (lv' := [(4, .int x_16), (3, .int r_10), (2, .int i_7), (5, .int r_10), (0, .ref m0), (1, .int 2)]) hx hb dX8_nextOf_78 hl (k := 3) rfl ex_16.symm (by decide) rfl (fun ls hl => ?_)
              refine lv_goto (tgt := 7) hx hb dX8_nextOf_81 (by decide) ?_
              exact ih x_16 i_7 r_10 _ (lv_sub hl [0, 1, 2, 4, 5] rfl) ⟨by omega, by omega⟩ ⟨by omega, by omega⟩ (show (i_7 : Int32).toInt = zNg gki gta 1 nde.toInt nse.toInt (zBy (zM gki gpa gta npu.toInt.toNat nhu.toInt 1 1) gki gpa gta nhu.toInt nde.toInt nse.toInt) x_16.toInt.toNat from by (have hx : x_16.toInt.toNat = i_7.toInt.toNat + 1 := (by omega); have y9 : i_7.toNatClampNeg = i_7.toInt.toNat := rfl; have hm := hsr_6_0; rw [y9] at hm; have z2 := hvi_7_1; have ok : zOk gki gta 1 nde.toInt nse.toInt i_7.toInt.toNat := ⟨(hm.mp (by omega)).1, (hm.mp (by omega)).2, Or.inl (by decide)⟩; have zr := hsr_10_0; rw [y9, show (if (0 : Int32).toInt = 0 then (1 : Int) else 0) = 1 from by decide] at zr; have zr2 : r_10.toInt = (zBy (zM gki gpa gta npu.toInt.toNat nhu.toInt 1 1) gki gpa gta nhu.toInt nde.toInt nse.toInt) i_7.toInt.toNat := zr; rw [hx]; first | (rw [zNg_y ok (by rw [← hvi_7_0]; rcases z2 with z2 | z2; (exact Or.inl (by omega)); (first | exact Or.inl (by omega) | exact Or.inr (by omega)))]; omega) | (rw [zNg_n (by rintro ⟨-, z3⟩; rw [← hvi_7_0] at z3; rcases z2 with z2 | z2; (omega); (rcases z3 with z3 | z3; (omega); (omega)))]; exact hvi_7_0))) (show ((i_7 : Int32).toInt = -1 ∨ (0 ≤ (i_7 : Int32).toInt ∧ (r_10 : Int32).toInt = (zBy (zM gki gpa gta npu.toInt.toNat nhu.toInt 1 1) gki gpa gta nhu.toInt nde.toInt nse.toInt) (i_7 : Int32).toInt.toNat)) from by (have hx : x_16.toInt.toNat = i_7.toInt.toNat + 1 := (by omega); have y9 : i_7.toNatClampNeg = i_7.toInt.toNat := rfl; have hm := hsr_6_0; rw [y9] at hm; have z2 := hvi_7_1; have ok : zOk gki gta 1 nde.toInt nse.toInt i_7.toInt.toNat := ⟨(hm.mp (by omega)).1, (hm.mp (by omega)).2, Or.inl (by decide)⟩; have zr := hsr_10_0; rw [y9, show (if (0 : Int32).toInt = 0 then (1 : Int) else 0) = 1 from by decide] at zr; have zr2 : r_10.toInt = (zBy (zM gki gpa gta npu.toInt.toNat nhu.toInt 1 1) gki gpa gta nhu.toInt nde.toInt nse.toInt) i_7.toInt.toNat := zr; first | exact hvi_7_1 | (refine Or.inr ⟨by omega, ?_⟩; rw [← zr2]))) (show x_16.toInt ≤ npu.toInt ∧ (i_7 : Int32).toInt < x_16.toInt from by exact ⟨by omega, by omega⟩) (dw_lo hloi_7 qx_16) (dw_hn hni_7 qx_16)
            · have fc_15 : r_10.toInt ≤ v_2.toInt := zf_nlt c_15 rfl rfl
              refine lv_goto (tgt := 78) hx hb dX8_nextOf_69 (by decide) ?_
              obtain ⟨x_17, ex_17⟩ : ∃ y : Int32, y = i_7 + 1 := ⟨_, rfl⟩
              have qx_17 : x_17.toInt = i_7.toInt + 1 := dw_inc ex_17 fc_4
              refine lv_iinc (v := x_17) (lv' := [(4, .int x_17), (5, .int r_10), (3, .int v_2), (2, .int v_1), (0, .ref m0), (1, .int 2)]) hx hb dX8_nextOf_78 hl (k := 1) rfl ex_17.symm (by decide) rfl (fun ls hl => ?_)
              refine lv_goto (tgt := 7) hx hb dX8_nextOf_81 (by decide) ?_
              exact ih x_17 v_1 v_2 _ (lv_sub hl [0, 2, 3, 4, 5] rfl) hbv_1 hbv_2 (show (v_1 : Int32).toInt = zNg gki gta 1 nde.toInt nse.toInt (zBy (zM gki gpa gta npu.toInt.toNat nhu.toInt 1 1) gki gpa gta nhu.toInt nde.toInt nse.toInt) x_17.toInt.toNat from by (have hx : x_17.toInt.toNat = i_7.toInt.toNat + 1 := (by omega); have y9 : i_7.toNatClampNeg = i_7.toInt.toNat := rfl; have hm := hsr_6_0; rw [y9] at hm; have z2 := hvi_7_1; have ok : zOk gki gta 1 nde.toInt nse.toInt i_7.toInt.toNat := ⟨(hm.mp (by omega)).1, (hm.mp (by omega)).2, Or.inl (by decide)⟩; have zr := hsr_10_0; rw [y9, show (if (0 : Int32).toInt = 0 then (1 : Int) else 0) = 1 from by decide] at zr; have zr2 : r_10.toInt = (zBy (zM gki gpa gta npu.toInt.toNat nhu.toInt 1 1) gki gpa gta nhu.toInt nde.toInt nse.toInt) i_7.toInt.toNat := zr; rw [hx]; first | (rw [zNg_y ok (by rw [← hvi_7_0]; rcases z2 with z2 | z2; (exact Or.inl (by omega)); (first | exact Or.inl (by omega) | exact Or.inr (by omega)))]; omega) | (rw [zNg_n (by rintro ⟨-, z3⟩; rw [← hvi_7_0] at z3; rcases z2 with z2 | z2; (omega); (rcases z3 with z3 | z3; (omega); (omega)))]; exact hvi_7_0))) (show ((v_1 : Int32).toInt = -1 ∨ (0 ≤ (v_1 : Int32).toInt ∧ (v_2 : Int32).toInt = (zBy (zM gki gpa gta npu.toInt.toNat nhu.toInt 1 1) gki gpa gta nhu.toInt nde.toInt nse.toInt) (v_1 : Int32).toInt.toNat)) from by (have hx : x_17.toInt.toNat = i_7.toInt.toNat + 1 := (by omega); have y9 : i_7.toNatClampNeg = i_7.toInt.toNat := rfl; have hm := hsr_6_0; rw [y9] at hm; have z2 := hvi_7_1; have ok : zOk gki gta 1 nde.toInt nse.toInt i_7.toInt.toNat := ⟨(hm.mp (by omega)).1, (hm.mp (by omega)).2, Or.inl (by decide)⟩; have zr := hsr_10_0; rw [y9, show (if (0 : Int32).toInt = 0 then (1 : Int) else 0) = 1 from by decide] at zr; have zr2 : r_10.toInt = (zBy (zM gki gpa gta npu.toInt.toNat nhu.toInt 1 1) gki gpa gta nhu.toInt nde.toInt nse.toInt) i_7.toInt.toNat := zr; first | exact hvi_7_1 | (refine Or.inr ⟨by omega, ?_⟩; rw [← zr2]))) (show x_17.toInt ≤ npu.toInt ∧ (v_1 : Int32).toInt < x_17.toInt from by exact ⟨by omega, by omega⟩) (dw_lo hloi_7 qx_17) (dw_hn hni_7 qx_17)
        · have fc_9 : r_6.toInt = 0 := zf_eq c_9 rfl (by decide)
          refine lv_goto (tgt := 78) hx hb dX8_nextOf_37 (by decide) ?_
          obtain ⟨x_18, ex_18⟩ : ∃ y : Int32, y = i_7 + 1 := ⟨_, rfl⟩
          have qx_18 : x_18.toInt = i_7.toInt + 1 := dw_inc ex_18 fc_4
          refine lv_iinc (v := x_18) (lv' := [(4, .int x_18), (3, .int v_2), (2, .int v_1), (0, .ref m0), (1, .int 2)]) hx hb dX8_nextOf_78 hl (k := 0) rfl ex_18.symm (by decide) rfl (fun ls hl => ?_)
          refine lv_goto (tgt := 7) hx hb dX8_nextOf_81 (by decide) ?_
          exact ih x_18 v_1 v_2 _ (lv_sub hl [0, 1, 2, 3, 4] rfl) hbv_1 hbv_2 (show (v_1 : Int32).toInt = zNg gki gta 1 nde.toInt nse.toInt (zBy (zM gki gpa gta npu.toInt.toNat nhu.toInt 1 1) gki gpa gta nhu.toInt nde.toInt nse.toInt) x_18.toInt.toNat from by (have hx : x_18.toInt.toNat = i_7.toInt.toNat + 1 := (by omega); have y9 : i_7.toNatClampNeg = i_7.toInt.toNat := rfl; have hm := hsr_6_0; rw [y9] at hm; have z2 := hvi_7_1; have no : ¬ zOk gki gta 1 nde.toInt nse.toInt i_7.toInt.toNat := (fun z => by (have z1 := hm.mpr ⟨z.1, z.2.1⟩; omega)); rw [hx, zNg_n (fun z => no z.1)]; exact hvi_7_0)) (show ((v_1 : Int32).toInt = -1 ∨ (0 ≤ (v_1 : Int32).toInt ∧ (v_2 : Int32).toInt = (zBy (zM gki gpa gta npu.toInt.toNat nhu.toInt 1 1) gki gpa gta nhu.toInt nde.toInt nse.toInt) (v_1 : Int32).toInt.toNat)) from by exact hvi_7_1) (show x_18.toInt ≤ npu.toInt ∧ (v_1 : Int32).toInt < x_18.toInt from by exact ⟨by omega, by omega⟩) (dw_lo hloi_7 qx_18) (dw_hn hni_7 qx_18)
set_option maxHeartbeats 4000000 in
set_option maxRecDepth 100000 in
theorem c_F_M_nextOf_3 (l : Launch) (D : va_G) (cI cJ cZ cP cS : ClassId) (po : zPool) (m0 mrf mki mpa mta mla msl mco mhe mso msi msh mce mca mwo mnu mte mwa mke mma mth mtr : Nat) (npu nte nat_ nde nto nse nhu nga nsd nfa nba npl nen nnu nwr nra nik : Int32) (gki gpa gta : Nat → Int32) (hy0 : 0 ≤ npu.toInt) (hy1 : npu.toInt ≤ 8) (hy2 : 4 ≤ nte.toInt) (hy3 : nte.toInt ≤ 40) (hy4 : 0 ≤ nat_.toInt) (hy5 : nat_.toInt ≤ 40) (hy6 : 0 ≤ nde.toInt) (hy7 : nde.toInt ≤ 24) (hy8 : 0 ≤ nhu.toInt) (hy9 : nhu.toInt ≤ 9) (hy10 : 0 ≤ nra.toInt) (hy11 : nra.toInt ≤ 2000) (hy12 : 0 ≤ nik.toInt) (hy13 : nik.toInt ≤ 1) (hy14 : 0 ≤ nse.toInt) (hy15 : nse.toInt ≤ 300) (hp_gki : zRg gki (0) 6) (hp_gpa : zRg gpa (0) 9) (hp_gta : zRg gta (0) 60) : Met l yX8_nextOf wsX8_nextOf ({ frames := 7, cells := 0, slots := 0, locals := 183 }) (va_Pc [.ref m0, .int 3] (zR D (zKT cI cJ cZ cP cS) po [(zMO m0 npu nte nat_ nde nto nse nhu nga nsd nfa mrf mki mpa mta mla msl mco mhe mso msi msh mce mca mwo mnu mte nba npl nen nnu nwr mwa mke mma mth mtr nra nik), (mki, .inl (cI, 8, .inl gki)), (mpa, .inl (cI, 8, .inl gpa)), (mta, .inl (cI, 8, .inl gta))])) (vp_Si (fun r => -1 ≤ r.toInt ∧ r.toInt ≤ 7 ∧ (r.toInt = zNq gki gpa gta npu.toInt.toNat nhu.toInt 3 nde.toInt nse.toInt))) 0 0 (fun _ => False) := by
  refine Met.ofW (cc := cX8_nextOf) (maxL := 6) (ret := (some .int)) (by decide) rfl ?_
  intro p e s m args below meth c s₁ B hml hv
  obtain ⟨rfl, hP, hK, hN, hZ⟩ := hv
  have hx := B.exec
  have hb := B.bytes
  have hr := B.returns
  have hts := atoms_spec (ws := wsX8_nextOf) B.pre
  have hown : s.vm.findClass RX8 = some m.cls := findClass_of_methodNamed B.named
  have hlocks := B.notSynchronized
  have hl := lv_entry ([.ref m0, .int 3]) (n := 6) (Nat.le_of_ble_eq_true rfl)
  rw [lg_entry_eq]
  generalize (lg_sl ([.ref m0, .int 3]) ++ List.replicate (6 - (lg_sl ([.ref m0, .int 3])).length) Slot.unset).toArray = ls at hl ⊢
  replace hl : lv_has ls 6 [(0, .ref m0), (1, .int 3)] := hl
  refine lv_iconst (v := (-1)) hx hb dX8_nextOf_0 (by decide) ?_
  refine lv_istore_n (lv' := [(2, .int (-1)), (0, .ref m0), (1, .int 3)]) hx hb dX8_nextOf_1 rfl hl (by decide) rfl (fun ls hl => ?_)
  refine lv_iconst (v := 0) hx hb dX8_nextOf_2 (by decide) ?_
  refine lv_istore_n (lv' := [(3, .int 0), (2, .int (-1)), (0, .ref m0), (1, .int 3)]) hx hb dX8_nextOf_3 rfl hl (by decide) rfl (fun ls hl => ?_)
  refine lv_iconst (v := 0) hx hb dX8_nextOf_4 (by decide) ?_
  refine lv_istore (lv' := [(4, .int 0), (3, .int 0), (2, .int (-1)), (0, .ref m0), (1, .int 3)]) hx hb dX8_nextOf_5 hl (by decide) rfl (fun ls hl => ?_)
  obtain ⟨i_7, hi_7⟩ : ∃ i : Int32, i = 0 := ⟨_, rfl⟩
  replace hl : lv_has ls 6 [(4, .int i_7), (3, .int 0), (2, .int (-1)), (0, .ref m0), (1, .int 3)] := by rw [hi_7]; exact lv_sub hl [0, 1, 2, 3, 4] rfl
  have h1i_7 : i_7.toInt = 0 := by rw [hi_7]; decide
  obtain ⟨nfu, hni_7⟩ : ∃ nq9 : Nat, npu.toInt ≤ i_7.toInt + (nq9 : Int) := ⟨((npu.toInt : Int) - 0).toNat, by omega⟩
  have hloi_7 : 0 ≤ i_7.toInt := by omega
  obtain ⟨v_1, hv_1⟩ : ∃ g : Int32, g = (-1) := ⟨_, rfl⟩
  obtain ⟨v_2, hv_2⟩ : ∃ g : Int32, g = 0 := ⟨_, rfl⟩
  replace hl : lv_has ls 6 [(4, .int i_7), (3, .int v_2), (2, .int v_1), (0, .ref m0), (1, .int 3)] := by rw [hv_1, hv_2]; exact hl
  have hbv_1 : -1 ≤ v_1.toInt ∧ v_1.toInt ≤ 7 := by rw [hv_1]; exact ⟨by decide, by decide⟩
  have hbv_2 : 0 ≤ v_2.toInt ∧ v_2.toInt ≤ 1728 := by rw [hv_2]; exact ⟨by decide, by decide⟩
  have hvi_7_0 : (v_1 : Int32).toInt = zNg gki gta 1 nde.toInt nse.toInt (zBy (zM gki gpa gta npu.toInt.toNat nhu.toInt 1 2) gki gpa gta nhu.toInt nde.toInt nse.toInt) i_7.toInt.toNat := by
    (try rw [hi_7]); (try rw [hv_1]); (try rw [hv_2]); (rw [(show ((0 : Int32).toInt.toNat) = 0 from by decide)]; show _ = (-1 : Int); decide)
  have hvi_7_1 : ((v_1 : Int32).toInt = -1 ∨ (0 ≤ (v_1 : Int32).toInt ∧ (v_2 : Int32).toInt = (zBy (zM gki gpa gta npu.toInt.toNat nhu.toInt 1 2) gki gpa gta nhu.toInt nde.toInt nse.toInt) (v_1 : Int32).toInt.toNat)) := by
    (try rw [hi_7]); (try rw [hv_1]); (try rw [hv_2]); (exact Or.inl (by decide))
  have hvi_7_2 : i_7.toInt ≤ npu.toInt ∧ (v_1 : Int32).toInt < i_7.toInt := by
    (try rw [hi_7]); (try rw [hv_1]); (try rw [hv_2]); (have k0 : (0 : Int32).toInt = 0 := (by decide); have km : ((-1) : Int32).toInt = -1 := (by decide); omega)
  clear h1i_7 hi_7 hv_1 hv_2
  revert hni_7
  revert hloi_7
  revert hvi_7_2
  revert hvi_7_1
  revert hvi_7_0
  revert hbv_2
  revert hbv_1
  revert hl
  revert ls
  revert v_2
  revert v_1
  revert i_7
  induction nfu with
  | zero =>
    intro i_7 v_1 v_2 ls hl hbv_1 hbv_2 hvi_7_0 hvi_7_1 hvi_7_2 hloi_7 hni_7
    have hzi_7 : npu.toInt ≤ i_7.toInt := by omega
    refine lv_iload hx hb dX8_nextOf_7 (lv_at hl 0 rfl) ?_
    refine lv_aload_n hx hb dX8_nextOf_9 rfl (lv_at hl 3 rfl) ?_
    refine va_get (D := D) (ci := 8) (v := .int npu) (C := RX8) (T := TX8) (N := 38) hx hb hts hi_X8_nextOf_8 hown hK hP 0 rfl rfl 0 (by decide) (hts (.fieldLink RX8 90 "TheLiningsInItModel" "pulls" "I") (List.mem_of_getElem? (i := 1) rfl)) (fun _ h9 => h9) rfl dX8_nextOf_10 ?_
    refine lv_icmp_ge (tgt := 84) hx hb dX8_nextOf_13 (by decide) (fun c_3 => ?_) (fun c_3 => ?_)
    · have fc_3 : npu.toInt ≤ i_7.toInt := zf_le c_3 rfl rfl
      refine lv_iload_n hx hb dX8_nextOf_84 rfl (lv_at hl 2 rfl) ?_
      exact W.iret (v := v_1) hx hb hr (fun t ht hW => ⟨v_1, rfl, ⟨by omega, by omega, (show (v_1 : Int32).toInt = zNq gki gpa gta npu.toInt.toNat nhu.toInt 3 nde.toInt nse.toInt from by (have h9 : i_7.toInt.toNat = npu.toInt.toNat := (by omega); have z := hvi_7_0; rw [h9] at z; unfold zNq; rw [if_neg (by decide), show ((3 : Int) - 1).toNat = 2 from by decide]; exact z))⟩, ht⟩) (fun q hq => by cases hq) dX8_nextOf_85
    · exfalso; have fc_3 : i_7.toInt < npu.toInt := zf_nle c_3 rfl rfl; omega
  | succ nfu ih =>
    intro i_7 v_1 v_2 ls hl hbv_1 hbv_2 hvi_7_0 hvi_7_1 hvi_7_2 hloi_7 hni_7
    refine lv_iload hx hb dX8_nextOf_7 (lv_at hl 0 rfl) ?_
    refine lv_aload_n hx hb dX8_nextOf_9 rfl (lv_at hl 3 rfl) ?_
    refine va_get (D := D) (ci := 8) (v := .int npu) (C := RX8) (T := TX8) (N := 38) hx hb hts hi_X8_nextOf_8 hown hK hP 0 rfl rfl 0 (by decide) (hts (.fieldLink RX8 90 "TheLiningsInItModel" "pulls" "I") (List.mem_of_getElem? (i := 1) rfl)) (fun _ h9 => h9) rfl dX8_nextOf_10 ?_
    refine lv_icmp_ge (tgt := 84) hx hb dX8_nextOf_13 (by decide) (fun c_4 => ?_) (fun c_4 => ?_)
    · have fc_4 : npu.toInt ≤ i_7.toInt := zf_le c_4 rfl rfl
      refine lv_iload_n hx hb dX8_nextOf_84 rfl (lv_at hl 2 rfl) ?_
      exact W.iret (v := v_1) hx hb hr (fun t ht hW => ⟨v_1, rfl, ⟨by omega, by omega, (show (v_1 : Int32).toInt = zNq gki gpa gta npu.toInt.toNat nhu.toInt 3 nde.toInt nse.toInt from by (have h9 : i_7.toInt.toNat = npu.toInt.toNat := (by omega); have z := hvi_7_0; rw [h9] at z; unfold zNq; rw [if_neg (by decide), show ((3 : Int) - 1).toNat = 2 from by decide]; exact z))⟩, ht⟩) (fun q hq => by cases hq) dX8_nextOf_85
    · have fc_4 : i_7.toInt < npu.toInt := zf_nle c_4 rfl rfl
      refine lv_iload_n hx hb dX8_nextOf_16 rfl (lv_at hl 4 rfl) ?_
      refine lv_if_le (tgt := 84) hx hb dX8_nextOf_17 (by decide) (fun c_5 => ?_) (fun c_5 => ?_)
      · exact absurd c_5 (by decide)
      · refine lv_aload_n hx hb dX8_nextOf_20 rfl (lv_at hl 3 rfl) ?_
        refine lv_iload hx hb dX8_nextOf_21 (lv_at hl 0 rfl) ?_
        refine lv_aload_n hx hb dX8_nextOf_23 rfl (lv_at hl 3 rfl) ?_
        refine va_get (D := D) (ci := 8) (v := .int nde) (C := RX8) (T := TX8) (N := 38) hx hb hts hi_X8_nextOf_8 hown hK hP 0 rfl rfl 3 (by decide) (hts (.fieldLink RX8 115 "TheLiningsInItModel" "depth" "I") (List.mem_of_getElem? (i := 2) rfl)) (fun _ h9 => h9) rfl dX8_nextOf_24 ?_
        refine lv_aload_n hx hb dX8_nextOf_27 rfl (lv_at hl 3 rfl) ?_
        refine va_get (D := D) (ci := 8) (v := .int nse) (C := RX8) (T := TX8) (N := 38) hx hb hts hi_X8_nextOf_8 hown hK hP 0 rfl rfl 5 (by decide) (hts (.fieldLink RX8 13 "TheLiningsInItModel" "seconds" "I") (List.mem_of_getElem? (i := 3) rfl)) (fun _ h9 => h9) rfl dX8_nextOf_28 ?_
        refine zc_V (As := [.int i_7, .int nde, .int nse]) (rest := []) ⟨hx, hb, hml, hown, hts⟩ (c_F_M_mayBe l D cI cJ cZ cP cS po m0 mrf mki mpa mta mla msl mco mhe mso msi msh mce mca mwo mnu mte mwa mke mma mth mtr (npu) (nte) (nat_) (nde) (nto) (nse) (nhu) (nga) (nsd) (nfa) (nba) (npl) (nen) (nnu) (nwr) (nra) (nik) gta (i_7) (nde) (nse) hy0 hy1 hy2 hy3 hy4 hy5 hy6 hy7 hy8 hy9 hy10 hy11 hy12 hy13 (by omega) (by omega) hp_gta) (cwV 3 hts gX8_nextOf_X8_mayBe rfl rfl rfl ⟨rfl, dh_X8_mayBe⟩ ⟨Nat.le_of_ble_eq_true rfl, Nat.le_of_ble_eq_true rfl⟩) hK hN hZ hP (hP.sub [0, 3] rfl) (va_recv (q := (RX8, TX8, 38)) hK hP (ci := 8) (q0 := 0) rfl rfl) rfl hl.1 rfl (Nat.le_of_ble_eq_true rfl) dX8_nextOf_31 ⟨Nat.le_of_ble_eq_true rfl, Nat.le_of_ble_eq_true rfl⟩ (fun r_6 hr_6 => ?_)
        obtain ⟨g_7, g_8, hsr_6_0⟩ := hr_6
        refine lv_if_ne (tgt := 40) hx hb dX8_nextOf_34 (by decide) (fun c_9 => ?_) (fun c_9 => ?_)
        · have fc_9 : r_6.toInt ≠ 0 := zf_ne c_9 rfl (by decide)
          have htl9 : (gta i_7.toNatClampNeg).toInt ≤ nse.toInt := (hsr_6_0.mp (by omega)).2
          refine lv_aload_n hx hb dX8_nextOf_40 rfl (lv_at hl 3 rfl) ?_
          refine lv_iload hx hb dX8_nextOf_41 (lv_at hl 0 rfl) ?_
          refine lv_iload_n hx hb dX8_nextOf_43 rfl (lv_at hl 4 rfl) ?_
          refine lv_aload_n hx hb dX8_nextOf_44 rfl (lv_at hl 3 rfl) ?_
          refine va_get (D := D) (ci := 8) (v := .int nde) (C := RX8) (T := TX8) (N := 38) hx hb hts hi_X8_nextOf_8 hown hK hP 0 rfl rfl 3 (by decide) (hts (.fieldLink RX8 115 "TheLiningsInItModel" "depth" "I") (List.mem_of_getElem? (i := 2) rfl)) (fun _ h9 => h9) rfl dX8_nextOf_45 ?_
          refine lv_aload_n hx hb dX8_nextOf_48 rfl (lv_at hl 3 rfl) ?_
          refine va_get (D := D) (ci := 8) (v := .int nse) (C := RX8) (T := TX8) (N := 38) hx hb hts hi_X8_nextOf_8 hown hK hP 0 rfl rfl 5 (by decide) (hts (.fieldLink RX8 13 "TheLiningsInItModel" "seconds" "I") (List.mem_of_getElem? (i := 3) rfl)) (fun _ h9 => h9) rfl dX8_nextOf_49 ?_
          refine lv_iconst (v := 0) hx hb dX8_nextOf_52 (by decide) ?_
          have kc0 : (0 : Int32).toInt = 0 := by decide
          refine zc_V (As := [.int i_7, .int 3, .int nde, .int nse, .int 0]) (rest := []) ⟨hx, hb, hml, hown, hts⟩ (c_F_M_casesBy_3 l D cI cJ cZ cP cS po m0 mrf mki mpa mta mla msl mco mhe mso msi msh mce mca mwo mnu mte mwa mke mma mth mtr (npu) (nte) (nat_) (nde) (nto) (nse) (nhu) (nga) (nsd) (nfa) (nba) (npl) (nen) (nnu) (nwr) (nra) (nik) gki gpa gta (i_7) (nde) (nse) (0) hy0 hy1 hy2 hy3 hy4 hy5 hy6 hy7 hy8 hy9 hy10 hy11 hy12 hy13 (by omega) (by omega) hy6 hy7 hy14 hy15 (by omega) (by omega) (by first | assumption | omega) hp_gki hp_gpa hp_gta) (cwV 5 hts gX8_nextOf_X8_casesBy rfl rfl rfl ⟨rfl, dh_X8_casesBy⟩ ⟨Nat.le_of_ble_eq_true rfl, Nat.le_of_ble_eq_true rfl⟩) hK hN hZ hP (hP.sub [0, 1, 2, 3] rfl) (va_recv (q := (RX8, TX8, 38)) hK hP (ci := 8) (q0 := 0) rfl rfl) rfl hl.1 rfl (Nat.le_of_ble_eq_true rfl) dX8_nextOf_53 ⟨Nat.le_of_ble_eq_true rfl, Nat.le_of_ble_eq_true rfl⟩ (fun r_10 hr_10 => ?_)
          obtain ⟨g_11, g_12, hsr_10_0⟩ := hr_10
          refine lv_istore (lv' := [(5, .int r_10), (4, .int i_7), (3, .int v_2), (2, .int v_1), (0, .ref m0), (1, .int 3)]) hx hb dX8_nextOf_56 hl (by decide) rfl (fun ls hl => ?_)
          refine lv_iload_n hx hb dX8_nextOf_58 rfl (lv_at hl 3 rfl) ?_
          refine lv_iconst (v := (-1)) hx hb dX8_nextOf_59 (by decide) ?_
          refine lv_icmp_eq (tgt := 72) hx hb dX8_nextOf_60 (by decide) (fun c_13 => ?_) (fun c_13 => ?_)
          · have fc_13 : v_1.toInt = (-1) := zf_eq c_13 rfl (by decide)
            refine lv_iload hx hb dX8_nextOf_72 (lv_at hl 1 rfl) ?_
            refine lv_istore_n (lv' := [(2, .int i_7), (5, .int r_10), (4, .int i_7), (3, .int v_2), (0, .ref m0), (1, .int 3)]) hx hb dX8_nextOf_74 rfl hl (by decide) rfl (fun ls hl => ?_)
            refine lv_iload hx hb dX8_nextOf_75 (lv_at hl 1 rfl) ?_
            refine lv_istore_n (lv' := [(3, .int r_10), (2, .int i_7), (5, .int r_10), (4, .int i_7), (0, .ref m0), (1, .int 3)]) hx hb dX8_nextOf_77 rfl hl (by decide) rfl (fun ls hl => ?_)
            obtain ⟨x_14, ex_14⟩ : ∃ y : Int32, y = i_7 + 1 := ⟨_, rfl⟩
            have qx_14 : x_14.toInt = i_7.toInt + 1 := dw_inc ex_14 fc_4
            refine lv_iinc (v := x_14) (lv' := [(4, .int x_14), (3, .int r_10), (2, .int i_7), (5, .int r_10), (0, .ref m0), (1, .int 3)]) hx hb dX8_nextOf_78 hl (k := 3) rfl ex_14.symm (by decide) rfl (fun ls hl => ?_)
            refine lv_goto (tgt := 7) hx hb dX8_nextOf_81 (by decide) ?_
            exact ih x_14 i_7 r_10 _ (lv_sub hl [0, 1, 2, 4, 5] rfl) ⟨by omega, by omega⟩ ⟨by omega, by omega⟩ (show (i_7 : Int32).toInt = zNg gki gta 1 nde.toInt nse.toInt (zBy (zM gki gpa gta npu.toInt.toNat nhu.toInt 1 2) gki gpa gta nhu.toInt nde.toInt nse.toInt) x_14.toInt.toNat from by (have hx : x_14.toInt.toNat = i_7.toInt.toNat + 1 := (by omega); have y9 : i_7.toNatClampNeg = i_7.toInt.toNat := rfl; have hm := hsr_6_0; rw [y9] at hm; have z2 := hvi_7_1; have ok : zOk gki gta 1 nde.toInt nse.toInt i_7.toInt.toNat := ⟨(hm.mp (by omega)).1, (hm.mp (by omega)).2, Or.inl (by decide)⟩; have zr := hsr_10_0; rw [y9, show (if (0 : Int32).toInt = 0 then (1 : Int) else 0) = 1 from by decide] at zr; have zr2 : r_10.toInt = (zBy (zM gki gpa gta npu.toInt.toNat nhu.toInt 1 2) gki gpa gta nhu.toInt nde.toInt nse.toInt) i_7.toInt.toNat := zr; rw [hx]; first | (rw [zNg_y ok (by rw [← hvi_7_0]; rcases z2 with z2 | z2; (exact Or.inl (by omega)); (first | exact Or.inl (by omega) | exact Or.inr (by omega)))]; omega) | (rw [zNg_n (by rintro ⟨-, z3⟩; rw [← hvi_7_0] at z3; rcases z2 with z2 | z2; (omega); (rcases z3 with z3 | z3; (omega); (omega)))]; exact hvi_7_0))) (show ((i_7 : Int32).toInt = -1 ∨ (0 ≤ (i_7 : Int32).toInt ∧ (r_10 : Int32).toInt = (zBy (zM gki gpa gta npu.toInt.toNat nhu.toInt 1 2) gki gpa gta nhu.toInt nde.toInt nse.toInt) (i_7 : Int32).toInt.toNat)) from by (have hx : x_14.toInt.toNat = i_7.toInt.toNat + 1 := (by omega); have y9 : i_7.toNatClampNeg = i_7.toInt.toNat := rfl; have hm := hsr_6_0; rw [y9] at hm; have z2 := hvi_7_1; have ok : zOk gki gta 1 nde.toInt nse.toInt i_7.toInt.toNat := ⟨(hm.mp (by omega)).1, (hm.mp (by omega)).2, Or.inl (by decide)⟩; have zr := hsr_10_0; rw [y9, show (if (0 : Int32).toInt = 0 then (1 : Int) else 0) = 1 from by decide] at zr; have zr2 : r_10.toInt = (zBy (zM gki gpa gta npu.toInt.toNat nhu.toInt 1 2) gki gpa gta nhu.toInt nde.toInt nse.toInt) i_7.toInt.toNat := zr; first | exact hvi_7_1 | (refine Or.inr ⟨by omega, ?_⟩; rw [← zr2]))) (show x_14.toInt ≤ npu.toInt ∧ (i_7 : Int32).toInt < x_14.toInt from by exact ⟨by omega, by omega⟩) (dw_lo hloi_7 qx_14) (dw_hn hni_7 qx_14)
          · have fc_13 : v_1.toInt ≠ (-1) := zf_ne c_13 rfl (by decide)
            refine lv_iload hx hb dX8_nextOf_63 (lv_at hl 0 rfl) ?_
            refine lv_iload_n hx hb dX8_nextOf_65 rfl (lv_at hl 2 rfl) ?_
            refine lv_icmp_gt (tgt := 72) hx hb dX8_nextOf_66 (by decide) (fun c_15 => ?_) (fun c_15 => ?_)
            · have fc_15 : v_2.toInt < r_10.toInt := zf_lt c_15 rfl rfl
              refine lv_iload hx hb dX8_nextOf_72 (lv_at hl 1 rfl) ?_
              refine lv_istore_n (lv' := [(2, .int i_7), (5, .int r_10), (4, .int i_7), (3, .int v_2), (0, .ref m0), (1, .int 3)]) hx hb dX8_nextOf_74 rfl hl (by decide) rfl (fun ls hl => ?_)
              refine lv_iload hx hb dX8_nextOf_75 (lv_at hl 1 rfl) ?_
              refine lv_istore_n (lv' := [(3, .int r_10), (2, .int i_7), (5, .int r_10), (4, .int i_7), (0, .ref m0), (1, .int 3)]) hx hb dX8_nextOf_77 rfl hl (by decide) rfl (fun ls hl => ?_)
              obtain ⟨x_16, ex_16⟩ : ∃ y : Int32, y = i_7 + 1 := ⟨_, rfl⟩
              have qx_16 : x_16.toInt = i_7.toInt + 1 := dw_inc ex_16 fc_4
              refine lv_iinc (v := x_16) (lv' := [(4, .int x_16), (3, .int r_10), (2, .int i_7), (5, .int r_10), (0, .ref m0), (1, .int 3)]) hx hb dX8_nextOf_78 hl (k := 3) rfl ex_16.symm (by decide) rfl (fun ls hl => ?_)
              refine lv_goto (tgt := 7) hx hb dX8_nextOf_81 (by decide) ?_
              exact ih x_16 i_7 r_10 _ (lv_sub hl [0, 1, 2, 4, 5] rfl) ⟨by omega, by omega⟩ ⟨by omega, by omega⟩ (show (i_7 : Int32).toInt = zNg gki gta 1 nde.toInt nse.toInt (zBy (zM gki gpa gta npu.toInt.toNat nhu.toInt 1 2) gki gpa gta nhu.toInt nde.toInt nse.toInt) x_16.toInt.toNat from by (have hx : x_16.toInt.toNat = i_7.toInt.toNat + 1 := (by omega); have y9 : i_7.toNatClampNeg = i_7.toInt.toNat := rfl; have hm := hsr_6_0; rw [y9] at hm; have z2 := hvi_7_1; have ok : zOk gki gta 1 nde.toInt nse.toInt i_7.toInt.toNat := ⟨(hm.mp (by omega)).1, (hm.mp (by omega)).2, Or.inl (by decide)⟩; have zr := hsr_10_0; rw [y9, show (if (0 : Int32).toInt = 0 then (1 : Int) else 0) = 1 from by decide] at zr; have zr2 : r_10.toInt = (zBy (zM gki gpa gta npu.toInt.toNat nhu.toInt 1 2) gki gpa gta nhu.toInt nde.toInt nse.toInt) i_7.toInt.toNat := zr; rw [hx]; first | (rw [zNg_y ok (by rw [← hvi_7_0]; rcases z2 with z2 | z2; (exact Or.inl (by omega)); (first | exact Or.inl (by omega) | exact Or.inr (by omega)))]; omega) | (rw [zNg_n (by rintro ⟨-, z3⟩; rw [← hvi_7_0] at z3; rcases z2 with z2 | z2; (omega); (rcases z3 with z3 | z3; (omega); (omega)))]; exact hvi_7_0))) (show ((i_7 : Int32).toInt = -1 ∨ (0 ≤ (i_7 : Int32).toInt ∧ (r_10 : Int32).toInt = (zBy (zM gki gpa gta npu.toInt.toNat nhu.toInt 1 2) gki gpa gta nhu.toInt nde.toInt nse.toInt) (i_7 : Int32).toInt.toNat)) from by (have hx : x_16.toInt.toNat = i_7.toInt.toNat + 1 := (by omega); have y9 : i_7.toNatClampNeg = i_7.toInt.toNat := rfl; have hm := hsr_6_0; rw [y9] at hm; have z2 := hvi_7_1; have ok : zOk gki gta 1 nde.toInt nse.toInt i_7.toInt.toNat := ⟨(hm.mp (by omega)).1, (hm.mp (by omega)).2, Or.inl (by decide)⟩; have zr := hsr_10_0; rw [y9, show (if (0 : Int32).toInt = 0 then (1 : Int) else 0) = 1 from by decide] at zr; have zr2 : r_10.toInt = (zBy (zM gki gpa gta npu.toInt.toNat nhu.toInt 1 2) gki gpa gta nhu.toInt nde.toInt nse.toInt) i_7.toInt.toNat := zr; first | exact hvi_7_1 | (refine Or.inr ⟨by omega, ?_⟩; rw [← zr2]))) (show x_16.toInt ≤ npu.toInt ∧ (i_7 : Int32).toInt < x_16.toInt from by exact ⟨by omega, by omega⟩) (dw_lo hloi_7 qx_16) (dw_hn hni_7 qx_16)
            · have fc_15 : r_10.toInt ≤ v_2.toInt := zf_nlt c_15 rfl rfl
              refine lv_goto (tgt := 78) hx hb dX8_nextOf_69 (by decide) ?_
              obtain ⟨x_17, ex_17⟩ : ∃ y : Int32, y = i_7 + 1 := ⟨_, rfl⟩
              have qx_17 : x_17.toInt = i_7.toInt + 1 := dw_inc ex_17 fc_4
              refine lv_iinc (v := x_17) (lv' := [(4, .int x_17), (5, .int r_10), (3, .int v_2), (2, .int v_1), (0, .ref m0), (1, .int 3)]) hx hb dX8_nextOf_78 hl (k := 1) rfl ex_17.symm (by decide) rfl (fun ls hl => ?_)
              refine lv_goto (tgt := 7) hx hb dX8_nextOf_81 (by decide) ?_
              exact ih x_17 v_1 v_2 _ (lv_sub hl [0, 2, 3, 4, 5] rfl) hbv_1 hbv_2 (show (v_1 : Int32).toInt = zNg gki gta 1 nde.toInt nse.toInt (zBy (zM gki gpa gta npu.toInt.toNat nhu.toInt 1 2) gki gpa gta nhu.toInt nde.toInt nse.toInt) x_17.toInt.toNat from by (have hx : x_17.toInt.toNat = i_7.toInt.toNat + 1 := (by omega); have y9 : i_7.toNatClampNeg = i_7.toInt.toNat := rfl; have hm := hsr_6_0; rw [y9] at hm; have z2 := hvi_7_1; have ok : zOk gki gta 1 nde.toInt nse.toInt i_7.toInt.toNat := ⟨(hm.mp (by omega)).1, (hm.mp (by omega)).2, Or.inl (by decide)⟩; have zr := hsr_10_0; rw [y9, show (if (0 : Int32).toInt = 0 then (1 : Int) else 0) = 1 from by decide] at zr; have zr2 : r_10.toInt = (zBy (zM gki gpa gta npu.toInt.toNat nhu.toInt 1 2) gki gpa gta nhu.toInt nde.toInt nse.toInt) i_7.toInt.toNat := zr; rw [hx]; first | (rw [zNg_y ok (by rw [← hvi_7_0]; rcases z2 with z2 | z2; (exact Or.inl (by omega)); (first | exact Or.inl (by omega) | exact Or.inr (by omega)))]; omega) | (rw [zNg_n (by rintro ⟨-, z3⟩; rw [← hvi_7_0] at z3; rcases z2 with z2 | z2; (omega); (rcases z3 with z3 | z3; (omega); (omega)))]; exact hvi_7_0))) (show ((v_1 : Int32).toInt = -1 ∨ (0 ≤ (v_1 : Int32).toInt ∧ (v_2 : Int32).toInt = (zBy (zM gki gpa gta npu.toInt.toNat nhu.toInt 1 2) gki gpa gta nhu.toInt nde.toInt nse.toInt) (v_1 : Int32).toInt.toNat)) from by (have hx : x_17.toInt.toNat = i_7.toInt.toNat + 1 := (by omega); have y9 : i_7.toNatClampNeg = i_7.toInt.toNat := rfl; have hm := hsr_6_0; rw [y9] at hm; have z2 := hvi_7_1; have ok : zOk gki gta 1 nde.toInt nse.toInt i_7.toInt.toNat := ⟨(hm.mp (by omega)).1, (hm.mp (by omega)).2, Or.inl (by decide)⟩; have zr := hsr_10_0; rw [y9, show (if (0 : Int32).toInt = 0 then (1 : Int) else 0) = 1 from by decide] at zr; have zr2 : r_10.toInt = (zBy (zM gki gpa gta npu.toInt.toNat nhu.toInt 1 2) gki gpa gta nhu.toInt nde.toInt nse.toInt) i_7.toInt.toNat := zr; first | exact hvi_7_1 | (refine Or.inr ⟨by omega, ?_⟩; rw [← zr2]))) (show x_17.toInt ≤ npu.toInt ∧ (v_1 : Int32).toInt < x_17.toInt from by exact ⟨by omega, by omega⟩) (dw_lo hloi_7 qx_17) (dw_hn hni_7 qx_17)
        · have fc_9 : r_6.toInt = 0 := zf_eq c_9 rfl (by decide)
          refine lv_goto (tgt := 78) hx hb dX8_nextOf_37 (by decide) ?_
          obtain ⟨x_18, ex_18⟩ : ∃ y : Int32, y = i_7 + 1 := ⟨_, rfl⟩
          have qx_18 : x_18.toInt = i_7.toInt + 1 := dw_inc ex_18 fc_4
          refine lv_iinc (v := x_18) (lv' := [(4, .int x_18), (3, .int v_2), (2, .int v_1), (0, .ref m0), (1, .int 3)]) hx hb dX8_nextOf_78 hl (k := 0) rfl ex_18.symm (by decide) rfl (fun ls hl => ?_)
          refine lv_goto (tgt := 7) hx hb dX8_nextOf_81 (by decide) ?_
          exact ih x_18 v_1 v_2 _ (lv_sub hl [0, 1, 2, 3, 4] rfl) hbv_1 hbv_2 (show (v_1 : Int32).toInt = zNg gki gta 1 nde.toInt nse.toInt (zBy (zM gki gpa gta npu.toInt.toNat nhu.toInt 1 2) gki gpa gta nhu.toInt nde.toInt nse.toInt) x_18.toInt.toNat from by (have hx : x_18.toInt.toNat = i_7.toInt.toNat + 1 := (by omega); have y9 : i_7.toNatClampNeg = i_7.toInt.toNat := rfl; have hm := hsr_6_0; rw [y9] at hm; have z2 := hvi_7_1; have no : ¬ zOk gki gta 1 nde.toInt nse.toInt i_7.toInt.toNat := (fun z => by (have z1 := hm.mpr ⟨z.1, z.2.1⟩; omega)); rw [hx, zNg_n (fun z => no z.1)]; exact hvi_7_0)) (show ((v_1 : Int32).toInt = -1 ∨ (0 ≤ (v_1 : Int32).toInt ∧ (v_2 : Int32).toInt = (zBy (zM gki gpa gta npu.toInt.toNat nhu.toInt 1 2) gki gpa gta nhu.toInt nde.toInt nse.toInt) (v_1 : Int32).toInt.toNat)) from by exact hvi_7_1) (show x_18.toInt ≤ npu.toInt ∧ (v_1 : Int32).toInt < x_18.toInt from by exact ⟨by omega, by omega⟩) (dw_lo hloi_7 qx_18) (dw_hn hni_7 qx_18)
set_option maxHeartbeats 4000000 in
set_option maxRecDepth 100000 in
theorem c_F_M_nextOf_4 (l : Launch) (D : va_G) (cI cJ cZ cP cS : ClassId) (po : zPool) (m0 mrf mki mpa mta mla msl mco mhe mso msi msh mce mca mwo mnu mte mwa mke mma mth mtr : Nat) (npu nte nat_ nde nto nse nhu nga nsd nfa nba npl nen nnu nwr nra nik : Int32) (gki gpa gta : Nat → Int32) (hy0 : 0 ≤ npu.toInt) (hy1 : npu.toInt ≤ 8) (hy2 : 4 ≤ nte.toInt) (hy3 : nte.toInt ≤ 40) (hy4 : 0 ≤ nat_.toInt) (hy5 : nat_.toInt ≤ 40) (hy6 : 0 ≤ nde.toInt) (hy7 : nde.toInt ≤ 24) (hy8 : 0 ≤ nhu.toInt) (hy9 : nhu.toInt ≤ 9) (hy10 : 0 ≤ nra.toInt) (hy11 : nra.toInt ≤ 2000) (hy12 : 0 ≤ nik.toInt) (hy13 : nik.toInt ≤ 1) (hy14 : 0 ≤ nse.toInt) (hy15 : nse.toInt ≤ 300) (hp_gki : zRg gki (0) 6) (hp_gpa : zRg gpa (0) 9) (hp_gta : zRg gta (0) 60) : Met l yX8_nextOf wsX8_nextOf ({ frames := 9, cells := 0, slots := 0, locals := 237 }) (va_Pc [.ref m0, .int 4] (zR D (zKT cI cJ cZ cP cS) po [(zMO m0 npu nte nat_ nde nto nse nhu nga nsd nfa mrf mki mpa mta mla msl mco mhe mso msi msh mce mca mwo mnu mte nba npl nen nnu nwr mwa mke mma mth mtr nra nik), (mki, .inl (cI, 8, .inl gki)), (mpa, .inl (cI, 8, .inl gpa)), (mta, .inl (cI, 8, .inl gta))])) (vp_Si (fun r => -1 ≤ r.toInt ∧ r.toInt ≤ 7 ∧ (r.toInt = zNq gki gpa gta npu.toInt.toNat nhu.toInt 4 nde.toInt nse.toInt))) 0 0 (fun _ => False) := by
  refine Met.ofW (cc := cX8_nextOf) (maxL := 6) (ret := (some .int)) (by decide) rfl ?_
  intro p e s m args below meth c s₁ B hml hv
  obtain ⟨rfl, hP, hK, hN, hZ⟩ := hv
  have hx := B.exec
  have hb := B.bytes
  have hr := B.returns
  have hts := atoms_spec (ws := wsX8_nextOf) B.pre
  have hown : s.vm.findClass RX8 = some m.cls := findClass_of_methodNamed B.named
  have hlocks := B.notSynchronized
  have hl := lv_entry ([.ref m0, .int 4]) (n := 6) (Nat.le_of_ble_eq_true rfl)
  rw [lg_entry_eq]
  generalize (lg_sl ([.ref m0, .int 4]) ++ List.replicate (6 - (lg_sl ([.ref m0, .int 4])).length) Slot.unset).toArray = ls at hl ⊢
  replace hl : lv_has ls 6 [(0, .ref m0), (1, .int 4)] := hl
  refine lv_iconst (v := (-1)) hx hb dX8_nextOf_0 (by decide) ?_
  refine lv_istore_n (lv' := [(2, .int (-1)), (0, .ref m0), (1, .int 4)]) hx hb dX8_nextOf_1 rfl hl (by decide) rfl (fun ls hl => ?_)
  refine lv_iconst (v := 0) hx hb dX8_nextOf_2 (by decide) ?_
  refine lv_istore_n (lv' := [(3, .int 0), (2, .int (-1)), (0, .ref m0), (1, .int 4)]) hx hb dX8_nextOf_3 rfl hl (by decide) rfl (fun ls hl => ?_)
  refine lv_iconst (v := 0) hx hb dX8_nextOf_4 (by decide) ?_
  refine lv_istore (lv' := [(4, .int 0), (3, .int 0), (2, .int (-1)), (0, .ref m0), (1, .int 4)]) hx hb dX8_nextOf_5 hl (by decide) rfl (fun ls hl => ?_)
  obtain ⟨i_7, hi_7⟩ : ∃ i : Int32, i = 0 := ⟨_, rfl⟩
  replace hl : lv_has ls 6 [(4, .int i_7), (3, .int 0), (2, .int (-1)), (0, .ref m0), (1, .int 4)] := by rw [hi_7]; exact lv_sub hl [0, 1, 2, 3, 4] rfl
  have h1i_7 : i_7.toInt = 0 := by rw [hi_7]; decide
  obtain ⟨nfu, hni_7⟩ : ∃ nq9 : Nat, npu.toInt ≤ i_7.toInt + (nq9 : Int) := ⟨((npu.toInt : Int) - 0).toNat, by omega⟩
  have hloi_7 : 0 ≤ i_7.toInt := by omega
  obtain ⟨v_1, hv_1⟩ : ∃ g : Int32, g = (-1) := ⟨_, rfl⟩
  obtain ⟨v_2, hv_2⟩ : ∃ g : Int32, g = 0 := ⟨_, rfl⟩
  replace hl : lv_has ls 6 [(4, .int i_7), (3, .int v_2), (2, .int v_1), (0, .ref m0), (1, .int 4)] := by rw [hv_1, hv_2]; exact hl
  have hbv_1 : -1 ≤ v_1.toInt ∧ v_1.toInt ≤ 7 := by rw [hv_1]; exact ⟨by decide, by decide⟩
  have hbv_2 : 0 ≤ v_2.toInt ∧ v_2.toInt ≤ 20736 := by rw [hv_2]; exact ⟨by decide, by decide⟩
  have hvi_7_0 : (v_1 : Int32).toInt = zNg gki gta 1 nde.toInt nse.toInt (zBy (zM gki gpa gta npu.toInt.toNat nhu.toInt 1 3) gki gpa gta nhu.toInt nde.toInt nse.toInt) i_7.toInt.toNat := by
    (try rw [hi_7]); (try rw [hv_1]); (try rw [hv_2]); (rw [(show ((0 : Int32).toInt.toNat) = 0 from by decide)]; show _ = (-1 : Int); decide)
  have hvi_7_1 : ((v_1 : Int32).toInt = -1 ∨ (0 ≤ (v_1 : Int32).toInt ∧ (v_2 : Int32).toInt = (zBy (zM gki gpa gta npu.toInt.toNat nhu.toInt 1 3) gki gpa gta nhu.toInt nde.toInt nse.toInt) (v_1 : Int32).toInt.toNat)) := by
    (try rw [hi_7]); (try rw [hv_1]); (try rw [hv_2]); (exact Or.inl (by decide))
  have hvi_7_2 : i_7.toInt ≤ npu.toInt ∧ (v_1 : Int32).toInt < i_7.toInt := by
    (try rw [hi_7]); (try rw [hv_1]); (try rw [hv_2]); (have k0 : (0 : Int32).toInt = 0 := (by decide); have km : ((-1) : Int32).toInt = -1 := (by decide); omega)
  clear h1i_7 hi_7 hv_1 hv_2
  revert hni_7
  revert hloi_7
  revert hvi_7_2
  revert hvi_7_1
  revert hvi_7_0
  revert hbv_2
  revert hbv_1
  revert hl
  revert ls
  revert v_2
  revert v_1
  revert i_7
  induction nfu with
  | zero =>
    intro i_7 v_1 v_2 ls hl hbv_1 hbv_2 hvi_7_0 hvi_7_1 hvi_7_2 hloi_7 hni_7
    have hzi_7 : npu.toInt ≤ i_7.toInt := by omega
    refine lv_iload hx hb dX8_nextOf_7 (lv_at hl 0 rfl) ?_
    refine lv_aload_n hx hb dX8_nextOf_9 rfl (lv_at hl 3 rfl) ?_
    refine va_get (D := D) (ci := 8) (v := .int npu) (C := RX8) (T := TX8) (N := 38) hx hb hts hi_X8_nextOf_8 hown hK hP 0 rfl rfl 0 (by decide) (hts (.fieldLink RX8 90 "TheLiningsInItModel" "pulls" "I") (List.mem_of_getElem? (i := 1) rfl)) (fun _ h9 => h9) rfl dX8_nextOf_10 ?_
    refine lv_icmp_ge (tgt := 84) hx hb dX8_nextOf_13 (by decide) (fun c_3 => ?_) (fun c_3 => ?_)
    · have fc_3 : npu.toInt ≤ i_7.toInt := zf_le c_3 rfl rfl
      refine lv_iload_n hx hb dX8_nextOf_84 rfl (lv_at hl 2 rfl) ?_
      exact W.iret (v := v_1) hx hb hr (fun t ht hW => ⟨v_1, rfl, ⟨by omega, by omega, (show (v_1 : Int32).toInt = zNq gki gpa gta npu.toInt.toNat nhu.toInt 4 nde.toInt nse.toInt from by (have h9 : i_7.toInt.toNat = npu.toInt.toNat := (by omega); have z := hvi_7_0; rw [h9] at z; unfold zNq; rw [if_neg (by decide), show ((4 : Int) - 1).toNat = 3 from by decide]; exact z))⟩, ht⟩) (fun q hq => by cases hq) dX8_nextOf_85
    · exfalso; have fc_3 : i_7.toInt < npu.toInt := zf_nle c_3 rfl rfl; omega
  | succ nfu ih =>
    intro i_7 v_1 v_2 ls hl hbv_1 hbv_2 hvi_7_0 hvi_7_1 hvi_7_2 hloi_7 hni_7
    refine lv_iload hx hb dX8_nextOf_7 (lv_at hl 0 rfl) ?_
    refine lv_aload_n hx hb dX8_nextOf_9 rfl (lv_at hl 3 rfl) ?_
    refine va_get (D := D) (ci := 8) (v := .int npu) (C := RX8) (T := TX8) (N := 38) hx hb hts hi_X8_nextOf_8 hown hK hP 0 rfl rfl 0 (by decide) (hts (.fieldLink RX8 90 "TheLiningsInItModel" "pulls" "I") (List.mem_of_getElem? (i := 1) rfl)) (fun _ h9 => h9) rfl dX8_nextOf_10 ?_
    refine lv_icmp_ge (tgt := 84) hx hb dX8_nextOf_13 (by decide) (fun c_4 => ?_) (fun c_4 => ?_)
    · have fc_4 : npu.toInt ≤ i_7.toInt := zf_le c_4 rfl rfl
      refine lv_iload_n hx hb dX8_nextOf_84 rfl (lv_at hl 2 rfl) ?_
      exact W.iret (v := v_1) hx hb hr (fun t ht hW => ⟨v_1, rfl, ⟨by omega, by omega, (show (v_1 : Int32).toInt = zNq gki gpa gta npu.toInt.toNat nhu.toInt 4 nde.toInt nse.toInt from by (have h9 : i_7.toInt.toNat = npu.toInt.toNat := (by omega); have z := hvi_7_0; rw [h9] at z; unfold zNq; rw [if_neg (by decide), show ((4 : Int) - 1).toNat = 3 from by decide]; exact z))⟩, ht⟩) (fun q hq => by cases hq) dX8_nextOf_85
    · have fc_4 : i_7.toInt < npu.toInt := zf_nle c_4 rfl rfl
      refine lv_iload_n hx hb dX8_nextOf_16 rfl (lv_at hl 4 rfl) ?_
      refine lv_if_le (tgt := 84) hx hb dX8_nextOf_17 (by decide) (fun c_5 => ?_) (fun c_5 => ?_)
      · exact absurd c_5 (by decide)
      · refine lv_aload_n hx hb dX8_nextOf_20 rfl (lv_at hl 3 rfl) ?_
        refine lv_iload hx hb dX8_nextOf_21 (lv_at hl 0 rfl) ?_
        refine lv_aload_n hx hb dX8_nextOf_23 rfl (lv_at hl 3 rfl) ?_
        refine va_get (D := D) (ci := 8) (v := .int nde) (C := RX8) (T := TX8) (N := 38) hx hb hts hi_X8_nextOf_8 hown hK hP 0 rfl rfl 3 (by decide) (hts (.fieldLink RX8 115 "TheLiningsInItModel" "depth" "I") (List.mem_of_getElem? (i := 2) rfl)) (fun _ h9 => h9) rfl dX8_nextOf_24 ?_
        refine lv_aload_n hx hb dX8_nextOf_27 rfl (lv_at hl 3 rfl) ?_
        refine va_get (D := D) (ci := 8) (v := .int nse) (C := RX8) (T := TX8) (N := 38) hx hb hts hi_X8_nextOf_8 hown hK hP 0 rfl rfl 5 (by decide) (hts (.fieldLink RX8 13 "TheLiningsInItModel" "seconds" "I") (List.mem_of_getElem? (i := 3) rfl)) (fun _ h9 => h9) rfl dX8_nextOf_28 ?_
        refine zc_V (As := [.int i_7, .int nde, .int nse]) (rest := []) ⟨hx, hb, hml, hown, hts⟩ (c_F_M_mayBe l D cI cJ cZ cP cS po m0 mrf mki mpa mta mla msl mco mhe mso msi msh mce mca mwo mnu mte mwa mke mma mth mtr (npu) (nte) (nat_) (nde) (nto) (nse) (nhu) (nga) (nsd) (nfa) (nba) (npl) (nen) (nnu) (nwr) (nra) (nik) gta (i_7) (nde) (nse) hy0 hy1 hy2 hy3 hy4 hy5 hy6 hy7 hy8 hy9 hy10 hy11 hy12 hy13 (by omega) (by omega) hp_gta) (cwV 3 hts gX8_nextOf_X8_mayBe rfl rfl rfl ⟨rfl, dh_X8_mayBe⟩ ⟨Nat.le_of_ble_eq_true rfl, Nat.le_of_ble_eq_true rfl⟩) hK hN hZ hP (hP.sub [0, 3] rfl) (va_recv (q := (RX8, TX8, 38)) hK hP (ci := 8) (q0 := 0) rfl rfl) rfl hl.1 rfl (Nat.le_of_ble_eq_true rfl) dX8_nextOf_31 ⟨Nat.le_of_ble_eq_true rfl, Nat.le_of_ble_eq_true rfl⟩ (fun r_6 hr_6 => ?_)
        obtain ⟨g_7, g_8, hsr_6_0⟩ := hr_6
        refine lv_if_ne (tgt := 40) hx hb dX8_nextOf_34 (by decide) (fun c_9 => ?_) (fun c_9 => ?_)
        · have fc_9 : r_6.toInt ≠ 0 := zf_ne c_9 rfl (by decide)
          have htl9 : (gta i_7.toNatClampNeg).toInt ≤ nse.toInt := (hsr_6_0.mp (by omega)).2
          refine lv_aload_n hx hb dX8_nextOf_40 rfl (lv_at hl 3 rfl) ?_
          refine lv_iload hx hb dX8_nextOf_41 (lv_at hl 0 rfl) ?_
          refine lv_iload_n hx hb dX8_nextOf_43 rfl (lv_at hl 4 rfl) ?_
          refine lv_aload_n hx hb dX8_nextOf_44 rfl (lv_at hl 3 rfl) ?_
          refine va_get (D := D) (ci := 8) (v := .int nde) (C := RX8) (T := TX8) (N := 38) hx hb hts hi_X8_nextOf_8 hown hK hP 0 rfl rfl 3 (by decide) (hts (.fieldLink RX8 115 "TheLiningsInItModel" "depth" "I") (List.mem_of_getElem? (i := 2) rfl)) (fun _ h9 => h9) rfl dX8_nextOf_45 ?_
          refine lv_aload_n hx hb dX8_nextOf_48 rfl (lv_at hl 3 rfl) ?_
          refine va_get (D := D) (ci := 8) (v := .int nse) (C := RX8) (T := TX8) (N := 38) hx hb hts hi_X8_nextOf_8 hown hK hP 0 rfl rfl 5 (by decide) (hts (.fieldLink RX8 13 "TheLiningsInItModel" "seconds" "I") (List.mem_of_getElem? (i := 3) rfl)) (fun _ h9 => h9) rfl dX8_nextOf_49 ?_
          refine lv_iconst (v := 0) hx hb dX8_nextOf_52 (by decide) ?_
          have kc0 : (0 : Int32).toInt = 0 := by decide
          refine zc_V (As := [.int i_7, .int 4, .int nde, .int nse, .int 0]) (rest := []) ⟨hx, hb, hml, hown, hts⟩ (c_F_M_casesBy_4 l D cI cJ cZ cP cS po m0 mrf mki mpa mta mla msl mco mhe mso msi msh mce mca mwo mnu mte mwa mke mma mth mtr (npu) (nte) (nat_) (nde) (nto) (nse) (nhu) (nga) (nsd) (nfa) (nba) (npl) (nen) (nnu) (nwr) (nra) (nik) gki gpa gta (i_7) (nde) (nse) (0) hy0 hy1 hy2 hy3 hy4 hy5 hy6 hy7 hy8 hy9 hy10 hy11 hy12 hy13 (by omega) (by omega) hy6 hy7 hy14 hy15 (by omega) (by omega) (by first | assumption | omega) hp_gki hp_gpa hp_gta) (cwV 5 hts gX8_nextOf_X8_casesBy rfl rfl rfl ⟨rfl, dh_X8_casesBy⟩ ⟨Nat.le_of_ble_eq_true rfl, Nat.le_of_ble_eq_true rfl⟩) hK hN hZ hP (hP.sub [0, 1, 2, 3] rfl) (va_recv (q := (RX8, TX8, 38)) hK hP (ci := 8) (q0 := 0) rfl rfl) rfl hl.1 rfl (Nat.le_of_ble_eq_true rfl) dX8_nextOf_53 ⟨Nat.le_of_ble_eq_true rfl, Nat.le_of_ble_eq_true rfl⟩ (fun r_10 hr_10 => ?_)
          obtain ⟨g_11, g_12, hsr_10_0⟩ := hr_10
          refine lv_istore (lv' := [(5, .int r_10), (4, .int i_7), (3, .int v_2), (2, .int v_1), (0, .ref m0), (1, .int 4)]) hx hb dX8_nextOf_56 hl (by decide) rfl (fun ls hl => ?_)
          refine lv_iload_n hx hb dX8_nextOf_58 rfl (lv_at hl 3 rfl) ?_
          refine lv_iconst (v := (-1)) hx hb dX8_nextOf_59 (by decide) ?_
          refine lv_icmp_eq (tgt := 72) hx hb dX8_nextOf_60 (by decide) (fun c_13 => ?_) (fun c_13 => ?_)
          · have fc_13 : v_1.toInt = (-1) := zf_eq c_13 rfl (by decide)
            refine lv_iload hx hb dX8_nextOf_72 (lv_at hl 1 rfl) ?_
            refine lv_istore_n (lv' := [(2, .int i_7), (5, .int r_10), (4, .int i_7), (3, .int v_2), (0, .ref m0), (1, .int 4)]) hx hb dX8_nextOf_74 rfl hl (by decide) rfl (fun ls hl => ?_)
            refine lv_iload hx hb dX8_nextOf_75 (lv_at hl 1 rfl) ?_
            refine lv_istore_n (lv' := [(3, .int r_10), (2, .int i_7), (5, .int r_10), (4, .int i_7), (0, .ref m0), (1, .int 4)]) hx hb dX8_nextOf_77 rfl hl (by decide) rfl (fun ls hl => ?_)
            obtain ⟨x_14, ex_14⟩ : ∃ y : Int32, y = i_7 + 1 := ⟨_, rfl⟩
            have qx_14 : x_14.toInt = i_7.toInt + 1 := dw_inc ex_14 fc_4
            refine lv_iinc (v := x_14) (lv' := [(4, .int x_14), (3, .int r_10), (2, .int i_7), (5, .int r_10), (0, .ref m0), (1, .int 4)]) hx hb dX8_nextOf_78 hl (k := 3) rfl ex_14.symm (by decide) rfl (fun ls hl => ?_)
            refine lv_goto (tgt := 7) hx hb dX8_nextOf_81 (by decide) ?_
            exact ih x_14 i_7 r_10 _ (lv_sub hl [0, 1, 2, 4, 5] rfl) ⟨by omega, by omega⟩ ⟨by omega, by omega⟩ (show (i_7 : Int32).toInt = zNg gki gta 1 nde.toInt nse.toInt (zBy (zM gki gpa gta npu.toInt.toNat nhu.toInt 1 3) gki gpa gta nhu.toInt nde.toInt nse.toInt) x_14.toInt.toNat from by (have hx : x_14.toInt.toNat = i_7.toInt.toNat + 1 := (by omega); have y9 : i_7.toNatClampNeg = i_7.toInt.toNat := rfl; have hm := hsr_6_0; rw [y9] at hm; have z2 := hvi_7_1; have ok : zOk gki gta 1 nde.toInt nse.toInt i_7.toInt.toNat := ⟨(hm.mp (by omega)).1, (hm.mp (by omega)).2, Or.inl (by decide)⟩; have zr := hsr_10_0; rw [y9, show (if (0 : Int32).toInt = 0 then (1 : Int) else 0) = 1 from by decide] at zr; have zr2 : r_10.toInt = (zBy (zM gki gpa gta npu.toInt.toNat nhu.toInt 1 3) gki gpa gta nhu.toInt nde.toInt nse.toInt) i_7.toInt.toNat := zr; rw [hx]; first | (rw [zNg_y ok (by rw [← hvi_7_0]; rcases z2 with z2 | z2; (exact Or.inl (by omega)); (first | exact Or.inl (by omega) | exact Or.inr (by omega)))]; omega) | (rw [zNg_n (by rintro ⟨-, z3⟩; rw [← hvi_7_0] at z3; rcases z2 with z2 | z2; (omega); (rcases z3 with z3 | z3; (omega); (omega)))]; exact hvi_7_0))) (show ((i_7 : Int32).toInt = -1 ∨ (0 ≤ (i_7 : Int32).toInt ∧ (r_10 : Int32).toInt = (zBy (zM gki gpa gta npu.toInt.toNat nhu.toInt 1 3) gki gpa gta nhu.toInt nde.toInt nse.toInt) (i_7 : Int32).toInt.toNat)) from by (have hx : x_14.toInt.toNat = i_7.toInt.toNat + 1 := (by omega); have y9 : i_7.toNatClampNeg = i_7.toInt.toNat := rfl; have hm := hsr_6_0; rw [y9] at hm; have z2 := hvi_7_1; have ok : zOk gki gta 1 nde.toInt nse.toInt i_7.toInt.toNat := ⟨(hm.mp (by omega)).1, (hm.mp (by omega)).2, Or.inl (by decide)⟩; have zr := hsr_10_0; rw [y9, show (if (0 : Int32).toInt = 0 then (1 : Int) else 0) = 1 from by decide] at zr; have zr2 : r_10.toInt = (zBy (zM gki gpa gta npu.toInt.toNat nhu.toInt 1 3) gki gpa gta nhu.toInt nde.toInt nse.toInt) i_7.toInt.toNat := zr; first | exact hvi_7_1 | (refine Or.inr ⟨by omega, ?_⟩; rw [← zr2]))) (show x_14.toInt ≤ npu.toInt ∧ (i_7 : Int32).toInt < x_14.toInt from by exact ⟨by omega, by omega⟩) (dw_lo hloi_7 qx_14) (dw_hn hni_7 qx_14)
          · have fc_13 : v_1.toInt ≠ (-1) := zf_ne c_13 rfl (by decide)
            refine lv_iload hx hb dX8_nextOf_63 (lv_at hl 0 rfl) ?_
            refine lv_iload_n hx hb dX8_nextOf_65 rfl (lv_at hl 2 rfl) ?_
            refine lv_icmp_gt (tgt := 72) hx hb dX8_nextOf_66 (by decide) (fun c_15 => ?_) (fun c_15 => ?_)
            · have fc_15 : v_2.toInt < r_10.toInt := zf_lt c_15 rfl rfl
              refine lv_iload hx hb dX8_nextOf_72 (lv_at hl 1 rfl) ?_
              refine lv_istore_n (lv' := [(2, .int i_7), (5, .int r_10), (4, .int i_7), (3, .int v_2), (0, .ref m0), (1, .int 4)]) hx hb dX8_nextOf_74 rfl hl (by decide) rfl (fun ls hl => ?_)
              refine lv_iload hx hb dX8_nextOf_75 (lv_at hl 1 rfl) ?_
              refine lv_istore_n (lv' := [(3, .int r_10), (2, .int i_7), (5, .int r_10), (4, .int i_7), (0, .ref m0), (1, .int 4)]) hx hb dX8_nextOf_77 rfl hl (by decide) rfl (fun ls hl => ?_)
              obtain ⟨x_16, ex_16⟩ : ∃ y : Int32, y = i_7 + 1 := ⟨_, rfl⟩
              have qx_16 : x_16.toInt = i_7.toInt + 1 := dw_inc ex_16 fc_4
              refine lv_iinc (v := x_16) (lv' := [(4, .int x_16), (3, .int r_10), (2, .int i_7), (5, .int r_10), (0, .ref m0), (1, .int 4)]) hx hb dX8_nextOf_78 hl (k := 3) rfl ex_16.symm (by decide) rfl (fun ls hl => ?_)
              refine lv_goto (tgt := 7) hx hb dX8_nextOf_81 (by decide) ?_
              exact ih x_16 i_7 r_10 _ (lv_sub hl [0, 1, 2, 4, 5] rfl) ⟨by omega, by omega⟩ ⟨by omega, by omega⟩ (show (i_7 : Int32).toInt = zNg gki gta 1 nde.toInt nse.toInt (zBy (zM gki gpa gta npu.toInt.toNat nhu.toInt 1 3) gki gpa gta nhu.toInt nde.toInt nse.toInt) x_16.toInt.toNat from by (have hx : x_16.toInt.toNat = i_7.toInt.toNat + 1 := (by omega); have y9 : i_7.toNatClampNeg = i_7.toInt.toNat := rfl; have hm := hsr_6_0; rw [y9] at hm; have z2 := hvi_7_1; have ok : zOk gki gta 1 nde.toInt nse.toInt i_7.toInt.toNat := ⟨(hm.mp (by omega)).1, (hm.mp (by omega)).2, Or.inl (by decide)⟩; have zr := hsr_10_0; rw [y9, show (if (0 : Int32).toInt = 0 then (1 : Int) else 0) = 1 from by decide] at zr; have zr2 : r_10.toInt = (zBy (zM gki gpa gta npu.toInt.toNat nhu.toInt 1 3) gki gpa gta nhu.toInt nde.toInt nse.toInt) i_7.toInt.toNat := zr; rw [hx]; first | (rw [zNg_y ok (by rw [← hvi_7_0]; rcases z2 with z2 | z2; (exact Or.inl (by omega)); (first | exact Or.inl (by omega) | exact Or.inr (by omega)))]; omega) | (rw [zNg_n (by rintro ⟨-, z3⟩; rw [← hvi_7_0] at z3; rcases z2 with z2 | z2; (omega); (rcases z3 with z3 | z3; (omega); (omega)))]; exact hvi_7_0))) (show ((i_7 : Int32).toInt = -1 ∨ (0 ≤ (i_7 : Int32).toInt ∧ (r_10 : Int32).toInt = (zBy (zM gki gpa gta npu.toInt.toNat nhu.toInt 1 3) gki gpa gta nhu.toInt nde.toInt nse.toInt) (i_7 : Int32).toInt.toNat)) from by (have hx : x_16.toInt.toNat = i_7.toInt.toNat + 1 := (by omega); have y9 : i_7.toNatClampNeg = i_7.toInt.toNat := rfl; have hm := hsr_6_0; rw [y9] at hm; have z2 := hvi_7_1; have ok : zOk gki gta 1 nde.toInt nse.toInt i_7.toInt.toNat := ⟨(hm.mp (by omega)).1, (hm.mp (by omega)).2, Or.inl (by decide)⟩; have zr := hsr_10_0; rw [y9, show (if (0 : Int32).toInt = 0 then (1 : Int) else 0) = 1 from by decide] at zr; have zr2 : r_10.toInt = (zBy (zM gki gpa gta npu.toInt.toNat nhu.toInt 1 3) gki gpa gta nhu.toInt nde.toInt nse.toInt) i_7.toInt.toNat := zr; first | exact hvi_7_1 | (refine Or.inr ⟨by omega, ?_⟩; rw [← zr2]))) (show x_16.toInt ≤ npu.toInt ∧ (i_7 : Int32).toInt < x_16.toInt from by exact ⟨by omega, by omega⟩) (dw_lo hloi_7 qx_16) (dw_hn hni_7 qx_16)
            · have fc_15 : r_10.toInt ≤ v_2.toInt := zf_nlt c_15 rfl rfl
              refine lv_goto (tgt := 78) hx hb dX8_nextOf_69 (by decide) ?_
              obtain ⟨x_17, ex_17⟩ : ∃ y : Int32, y = i_7 + 1 := ⟨_, rfl⟩
              have qx_17 : x_17.toInt = i_7.toInt + 1 := dw_inc ex_17 fc_4
              refine lv_iinc (v := x_17) (lv' := [(4, .int x_17), (5, .int r_10), (3, .int v_2), (2, .int v_1), (0, .ref m0), (1, .int 4)]) hx hb dX8_nextOf_78 hl (k := 1) rfl ex_17.symm (by decide) rfl (fun ls hl => ?_)
              refine lv_goto (tgt := 7) hx hb dX8_nextOf_81 (by decide) ?_
              exact ih x_17 v_1 v_2 _ (lv_sub hl [0, 2, 3, 4, 5] rfl) hbv_1 hbv_2 (show (v_1 : Int32).toInt = zNg gki gta 1 nde.toInt nse.toInt (zBy (zM gki gpa gta npu.toInt.toNat nhu.toInt 1 3) gki gpa gta nhu.toInt nde.toInt nse.toInt) x_17.toInt.toNat from by (have hx : x_17.toInt.toNat = i_7.toInt.toNat + 1 := (by omega); have y9 : i_7.toNatClampNeg = i_7.toInt.toNat := rfl; have hm := hsr_6_0; rw [y9] at hm; have z2 := hvi_7_1; have ok : zOk gki gta 1 nde.toInt nse.toInt i_7.toInt.toNat := ⟨(hm.mp (by omega)).1, (hm.mp (by omega)).2, Or.inl (by decide)⟩; have zr := hsr_10_0; rw [y9, show (if (0 : Int32).toInt = 0 then (1 : Int) else 0) = 1 from by decide] at zr; have zr2 : r_10.toInt = (zBy (zM gki gpa gta npu.toInt.toNat nhu.toInt 1 3) gki gpa gta nhu.toInt nde.toInt nse.toInt) i_7.toInt.toNat := zr; rw [hx]; first | (rw [zNg_y ok (by rw [← hvi_7_0]; rcases z2 with z2 | z2; (exact Or.inl (by omega)); (first | exact Or.inl (by omega) | exact Or.inr (by omega)))]; omega) | (rw [zNg_n (by rintro ⟨-, z3⟩; rw [← hvi_7_0] at z3; rcases z2 with z2 | z2; (omega); (rcases z3 with z3 | z3; (omega); (omega)))]; exact hvi_7_0))) (show ((v_1 : Int32).toInt = -1 ∨ (0 ≤ (v_1 : Int32).toInt ∧ (v_2 : Int32).toInt = (zBy (zM gki gpa gta npu.toInt.toNat nhu.toInt 1 3) gki gpa gta nhu.toInt nde.toInt nse.toInt) (v_1 : Int32).toInt.toNat)) from by (have hx : x_17.toInt.toNat = i_7.toInt.toNat + 1 := (by omega); have y9 : i_7.toNatClampNeg = i_7.toInt.toNat := rfl; have hm := hsr_6_0; rw [y9] at hm; have z2 := hvi_7_1; have ok : zOk gki gta 1 nde.toInt nse.toInt i_7.toInt.toNat := ⟨(hm.mp (by omega)).1, (hm.mp (by omega)).2, Or.inl (by decide)⟩; have zr := hsr_10_0; rw [y9, show (if (0 : Int32).toInt = 0 then (1 : Int) else 0) = 1 from by decide] at zr; have zr2 : r_10.toInt = (zBy (zM gki gpa gta npu.toInt.toNat nhu.toInt 1 3) gki gpa gta nhu.toInt nde.toInt nse.toInt) i_7.toInt.toNat := zr; first | exact hvi_7_1 | (refine Or.inr ⟨by omega, ?_⟩; rw [← zr2]))) (show x_17.toInt ≤ npu.toInt ∧ (v_1 : Int32).toInt < x_17.toInt from by exact ⟨by omega, by omega⟩) (dw_lo hloi_7 qx_17) (dw_hn hni_7 qx_17)
        · have fc_9 : r_6.toInt = 0 := zf_eq c_9 rfl (by decide)
          refine lv_goto (tgt := 78) hx hb dX8_nextOf_37 (by decide) ?_
          obtain ⟨x_18, ex_18⟩ : ∃ y : Int32, y = i_7 + 1 := ⟨_, rfl⟩
          have qx_18 : x_18.toInt = i_7.toInt + 1 := dw_inc ex_18 fc_4
          refine lv_iinc (v := x_18) (lv' := [(4, .int x_18), (3, .int v_2), (2, .int v_1), (0, .ref m0), (1, .int 4)]) hx hb dX8_nextOf_78 hl (k := 0) rfl ex_18.symm (by decide) rfl (fun ls hl => ?_)
          refine lv_goto (tgt := 7) hx hb dX8_nextOf_81 (by decide) ?_
          exact ih x_18 v_1 v_2 _ (lv_sub hl [0, 1, 2, 3, 4] rfl) hbv_1 hbv_2 (show (v_1 : Int32).toInt = zNg gki gta 1 nde.toInt nse.toInt (zBy (zM gki gpa gta npu.toInt.toNat nhu.toInt 1 3) gki gpa gta nhu.toInt nde.toInt nse.toInt) x_18.toInt.toNat from by (have hx : x_18.toInt.toNat = i_7.toInt.toNat + 1 := (by omega); have y9 : i_7.toNatClampNeg = i_7.toInt.toNat := rfl; have hm := hsr_6_0; rw [y9] at hm; have z2 := hvi_7_1; have no : ¬ zOk gki gta 1 nde.toInt nse.toInt i_7.toInt.toNat := (fun z => by (have z1 := hm.mpr ⟨z.1, z.2.1⟩; omega)); rw [hx, zNg_n (fun z => no z.1)]; exact hvi_7_0)) (show ((v_1 : Int32).toInt = -1 ∨ (0 ≤ (v_1 : Int32).toInt ∧ (v_2 : Int32).toInt = (zBy (zM gki gpa gta npu.toInt.toNat nhu.toInt 1 3) gki gpa gta nhu.toInt nde.toInt nse.toInt) (v_1 : Int32).toInt.toNat)) from by exact hvi_7_1) (show x_18.toInt ≤ npu.toInt ∧ (v_1 : Int32).toInt < x_18.toInt from by exact ⟨by omega, by omega⟩) (dw_lo hloi_7 qx_18) (dw_hn hni_7 qx_18)
set_option maxHeartbeats 4000000 in
set_option maxRecDepth 100000 in
theorem c_F_M_cases (l : Launch) (D : va_G) (cI cJ cZ cP cS : ClassId) (po : zPool) (m0 mrf mki mpa mta mla msl mco mhe mso msi msh mce mca mwo mnu mte mwa mke mma mth mtr : Nat) (npu nte nat_ nde nto nse nhu nga nsd nfa nba npl nen nnu nwr nra nik : Int32) (grf gki gpa gta : Nat → Int32) (n w : Int32) (hy0 : 0 ≤ npu.toInt) (hy1 : npu.toInt ≤ 8) (hy2 : 4 ≤ nte.toInt) (hy3 : nte.toInt ≤ 40) (hy4 : 0 ≤ nat_.toInt) (hy5 : nat_.toInt ≤ 40) (hy6 : 0 ≤ nde.toInt) (hy7 : nde.toInt ≤ 24) (hy8 : 0 ≤ nhu.toInt) (hy9 : nhu.toInt ≤ 9) (hy10 : 0 ≤ nra.toInt) (hy11 : nra.toInt ≤ 2000) (hy12 : 0 ≤ nik.toInt) (hy13 : nik.toInt ≤ 1) (hy14 : 0 ≤ nse.toInt) (hy15 : nse.toInt ≤ 300) (hp_gki : zRg gki (0) 6) (hp_gpa : zRg gpa (0) 9) (hp_gta : zRg gta (0) 60) (hpz : Nat) : Met l yX8_cases wsX8_cases ({ frames := 10, cells := 0, slots := 0, locals := 264 }) (va_Pc [.ref m0, .int n, .int w] (zW D (zKT cI cJ cZ cP cS) po [(zMO m0 npu nte nat_ nde nto nse nhu nga nsd nfa mrf mki mpa mta mla msl mco mhe mso msi msh mce mca mwo mnu mte nba npl nen nnu nwr mwa mke mma mth mtr nra nik), (mrf, .inl (cI, 8, .inl grf)), (mki, .inl (cI, 8, .inl gki)), (mpa, .inl (cI, 8, .inl gpa)), (mta, .inl (cI, 8, .inl gta))] hpz)) (va_Qi (fun (r : Int32) (grf2 : (Nat → Int32)) => (((w.toInt < 0 ∨ 2 < w.toInt) ∧ r.toInt = -15) ∨ ((0 ≤ w.toInt ∧ w.toInt ≤ 2) ∧ (((n.toInt < 0 ∨ 4 < n.toInt) ∧ r.toInt = -16) ∨ ((0 ≤ n.toInt ∧ n.toInt ≤ 4) ∧ ((w.toInt = 1 ∧ r.toInt = zNq gki gpa gta npu.toInt.toNat nhu.toInt n.toInt nde.toInt nse.toInt) ∨ (w.toInt ≠ 1 ∧ r.toInt = zM gki gpa gta npu.toInt.toNat nhu.toInt (if w.toInt = 2 then 0 else 1) n.toInt.toNat nde.toInt nse.toInt)))))) ∧ (True)) (zB D [(zMO m0 npu nte nat_ nde nto nse nhu nga nsd nfa mrf mki mpa mta mla msl mco mhe mso msi msh mce mca mwo mnu mte nba npl nen nnu nwr mwa mke mma mth mtr nra nik), (mrf, .inl (cI, 8, .inl grf)), (mki, .inl (cI, 8, .inl gki)), (mpa, .inl (cI, 8, .inl gpa)), (mta, .inl (cI, 8, .inl gta))] hpz (fun (grf2 : Nat → Int32) => [(zMO m0 npu nte nat_ nde nto nse nhu nga nsd nfa mrf mki mpa mta mla msl mco mhe mso msi msh mce mca mwo mnu mte nba npl nen nnu nwr mwa mke mma mth mtr nra nik), (mrf, .inl (cI, 8, .inl grf2)), (mki, .inl (cI, 8, .inl gki)), (mpa, .inl (cI, 8, .inl gpa)), (mta, .inl (cI, 8, .inl gta))])) (va_A [(zMO m0 npu nte nat_ nde nto nse nhu nga nsd nfa mrf mki mpa mta mla msl mco mhe mso msi msh mce mca mwo mnu mte nba npl nen nnu nwr mwa mke mma mth mtr nra nik), (mrf, .inl (cI, 8, .inl grf)), (mki, .inl (cI, 8, .inl gki)), (mpa, .inl (cI, 8, .inl gpa)), (mta, .inl (cI, 8, .inl gta))] hpz)) 0 0 (va_A [(zMO m0 npu nte nat_ nde nto nse nhu nga nsd nfa mrf mki mpa mta mla msl mco mhe mso msi msh mce mca mwo mnu mte nba npl nen nnu nwr mwa mke mma mth mtr nra nik), (mrf, .inl (cI, 8, .inl grf)), (mki, .inl (cI, 8, .inl gki)), (mpa, .inl (cI, 8, .inl gpa)), (mta, .inl (cI, 8, .inl gta))] hpz) := by
  refine Met.ofW (cc := cX8_cases) (maxL := 3) (ret := (some .int)) (by decide) rfl ?_
  intro p e s m args below meth c s₁ B hml hv
  obtain ⟨rfl, hsz, hP, hK, hD0, hN, hZ⟩ := hv
  have hx := B.exec
  have hb := B.bytes
  have hr := B.returns
  have hts := atoms_spec (ws := wsX8_cases) B.pre
  have hown : s.vm.findClass RX8 = some m.cls := findClass_of_methodNamed B.named
  have hlocks := B.notSynchronized
  subst hsz
  have hD := hD0.self (sz := s.heap.size)
  have hA := zA_of hD
  have hl := lv_entry ([.ref m0, .int n, .int w]) (n := 3) (Nat.le_of_ble_eq_true rfl)
  rw [lg_entry_eq]
  generalize (lg_sl ([.ref m0, .int n, .int w]) ++ List.replicate (3 - (lg_sl ([.ref m0, .int n, .int w])).length) Slot.unset).toArray = ls at hl ⊢
  replace hl : lv_has ls 3 [(0, .ref m0), (1, .int n), (2, .int w)] := hl
  refine zw_begin hP hD (fun H locs hP1 hS => ?_)
  clear hP
  have hP := hP1
  clear hP1
  refine lv_iload_n hx hb dX8_cases_0 rfl (lv_at hl 2 rfl) ?_
  refine lv_if_lt (tgt := 9) hx hb dX8_cases_1 (by decide) (fun c_1 => ?_) (fun c_1 => ?_)
  · have fc_1 : w.toInt < 0 := zf_lt c_1 rfl (by decide)
    refine lv_aload_n hx hb dX8_cases_9 rfl (lv_at hl 0 rfl) ?_
    refine lv_bipush (v := (-5)) hx hb dX8_cases_10 (by decide) ?_
    skip
    refine zw_V (As := [.int (-5)]) (rest := []) (wr := [(mki, .inl (cI, 8, .inl gki)), (mpa, .inl (cI, 8, .inl gpa)), (mta, .inl (cI, 8, .inl gta))]) ⟨hx, hb, hml, hown, hts⟩ (c_M_noTen_5 l D cI cJ cZ cP cS po m0 mrf mki mpa mta mla msl mco mhe mso msi msh mce mca mwo mnu mte mwa mke mma mth mtr (npu) (nte) (nat_) (nde) (nto) (nse) (nhu) (nga) (nsd) (nfa) (nba) (npl) (nen) (nnu) (nwr) (nra) (nik) grf hy0 hy1 hy2 hy3 hy4 hy5 hy6 hy7 hy8 hy9 hy10 hy11 hy12 hy13 H.size) (cwV 1 hts gX8_cases_X8_noTen rfl rfl rfl ⟨rfl, dh_X8_noTen⟩ ⟨Nat.le_of_ble_eq_true rfl, Nat.le_of_ble_eq_true rfl⟩) hK hN (hZ.kept hS) hP hD hS hA [0, 1] [2, 3, 4] rfl rfl (by decide) (by decide) (by decide) (va_recv (q := (RX8, TX8, 38)) hK hP (ci := 8) (q0 := 0) rfl rfl) rfl hl.1 rfl (Nat.le_of_ble_eq_true rfl) dX8_cases_12 ⟨Nat.le_of_ble_eq_true rfl, Nat.le_of_ble_eq_true rfl⟩ (fun r_2 u_3 H locs hr_2 hP hD hS => ?_)
    obtain ⟨q_4, rfl⟩ : ∃ z, z = u_3 := ⟨_, rfl⟩
    have h9R := zRe (ws' := [(mki, .inl (cI, 8, .inl gki)), (mpa, .inl (cI, 8, .inl gpa)), (mta, .inl (cI, 8, .inl gta)), (zMO m0 npu nte nat_ nde nto nse nhu nga nsd nfa mrf mki mpa mta mla msl mco mhe mso msi msh mce mca mwo mnu mte nba npl nen nnu nwr mwa mke mma mth mtr nra nik), (mrf, .inl (cI, 8, .inl q_4))]) hP hD rfl
    clear hP hD
    obtain ⟨hP, hD⟩ := h9R
    obtain rfl := hr_2
    exact W.iret (v := (-15)) hx hb hr (fun t ht hW => ⟨⟨(-15), q_4, rfl, ⟨(show ((w.toInt < 0 ∨ 2 < w.toInt) ∧ ((-15) : Int32).toInt = -15) ∨ ((0 ≤ w.toInt ∧ w.toInt ≤ 2) ∧ (((n.toInt < 0 ∨ 4 < n.toInt) ∧ ((-15) : Int32).toInt = -16) ∨ ((0 ≤ n.toInt ∧ n.toInt ≤ 4) ∧ ((w.toInt = 1 ∧ ((-15) : Int32).toInt = zNq gki gpa gta npu.toInt.toNat nhu.toInt n.toInt nde.toInt nse.toInt) ∨ (w.toInt ≠ 1 ∧ ((-15) : Int32).toInt = zM gki gpa gta npu.toInt.toNat nhu.toInt (if w.toInt = 2 then 0 else 1) n.toInt.toNat nde.toInt nse.toInt))))) from by (have k15m : ((-15) : Int32).toInt = -15 := (by decide); omega)), trivial⟩, zRet ht hP hD [3, 4, 0, 1, 2] (by decide) rfl⟩, hS.F ht⟩) hS.2.2 dX8_cases_15
  · have fc_1 : 0 ≤ w.toInt := zf_nlt c_1 rfl (by decide)
    refine lv_iload_n hx hb dX8_cases_4 rfl (lv_at hl 2 rfl) ?_
    refine lv_iconst (v := 2) hx hb dX8_cases_5 (by decide) ?_
    refine lv_icmp_le (tgt := 16) hx hb dX8_cases_6 (by decide) (fun c_5 => ?_) (fun c_5 => ?_)
    · have fc_5 : w.toInt ≤ 2 := zf_le c_5 rfl (by decide)
      refine lv_aload_n hx hb dX8_cases_16 rfl (lv_at hl 0 rfl) ?_
      refine lv_iload_n hx hb dX8_cases_17 rfl (lv_at hl 1 rfl) ?_
      refine zc_V (As := [.int n]) (rest := []) ⟨hx, hb, hml, hown, hts⟩ (c_M_isFew l D cI cJ cZ cP cS po m0 mrf mki mpa mta mla msl mco mhe mso msi msh mce mca mwo mnu mte mwa mke mma mth mtr (npu) (nte) (nat_) (nde) (nto) (nse) (nhu) (nga) (nsd) (nfa) (nba) (npl) (nen) (nnu) (nwr) (nra) (nik) (n) hy0 hy1 hy2 hy3 hy4 hy5 hy6 hy7 hy8 hy9 hy10 hy11 hy12 hy13) (cwV 1 hts gX8_cases_X8_isFew rfl rfl rfl ⟨rfl, dh_X8_isFew⟩ ⟨Nat.le_of_ble_eq_true rfl, Nat.le_of_ble_eq_true rfl⟩) hK hN (hZ.kept hS) hP (hP.sub [0] rfl) (va_recv (q := (RX8, TX8, 38)) hK hP (ci := 8) (q0 := 0) rfl rfl) rfl hl.1 rfl (Nat.le_of_ble_eq_true rfl) dX8_cases_18 ⟨Nat.le_of_ble_eq_true rfl, Nat.le_of_ble_eq_true rfl⟩ (fun r_6 hr_6 => ?_)
      rcases hr_6 with ⟨rfl, g_7⟩ | ⟨rfl, g_8, g_9⟩ | ⟨rfl, g_10, g_11⟩
      · refine lv_if_ne (tgt := 31) hx hb dX8_cases_21 (by decide) (fun c_12 => ?_) (fun c_12 => ?_)
        · exact absurd c_12 (by decide)
        · refine lv_aload_n hx hb dX8_cases_24 rfl (lv_at hl 0 rfl) ?_
          refine lv_bipush (v := (-6)) hx hb dX8_cases_25 (by decide) ?_
          skip
          refine zw_V (As := [.int (-6)]) (rest := []) (wr := [(mki, .inl (cI, 8, .inl gki)), (mpa, .inl (cI, 8, .inl gpa)), (mta, .inl (cI, 8, .inl gta))]) ⟨hx, hb, hml, hown, hts⟩ (c_M_noTen_6 l D cI cJ cZ cP cS po m0 mrf mki mpa mta mla msl mco mhe mso msi msh mce mca mwo mnu mte mwa mke mma mth mtr (npu) (nte) (nat_) (nde) (nto) (nse) (nhu) (nga) (nsd) (nfa) (nba) (npl) (nen) (nnu) (nwr) (nra) (nik) grf hy0 hy1 hy2 hy3 hy4 hy5 hy6 hy7 hy8 hy9 hy10 hy11 hy12 hy13 H.size) (cwV 1 hts gX8_cases_X8_noTen rfl rfl rfl ⟨rfl, dh_X8_noTen⟩ ⟨Nat.le_of_ble_eq_true rfl, Nat.le_of_ble_eq_true rfl⟩) hK hN (hZ.kept hS) hP hD hS hA [0, 1] [2, 3, 4] rfl rfl (by decide) (by decide) (by decide) (va_recv (q := (RX8, TX8, 38)) hK hP (ci := 8) (q0 := 0) rfl rfl) rfl hl.1 rfl (Nat.le_of_ble_eq_true rfl) dX8_cases_27 ⟨Nat.le_of_ble_eq_true rfl, Nat.le_of_ble_eq_true rfl⟩ (fun r_13 u_14 H locs hr_13 hP hD hS => ?_)
          obtain ⟨q_15, rfl⟩ : ∃ z, z = u_14 := ⟨_, rfl⟩
          have h9R := zRe (ws' := [(mki, .inl (cI, 8, .inl gki)), (mpa, .inl (cI, 8, .inl gpa)), (mta, .inl (cI, 8, .inl gta)), (zMO m0 npu nte nat_ nde nto nse nhu nga nsd nfa mrf mki mpa mta mla msl mco mhe mso msi msh mce mca mwo mnu mte nba npl nen nnu nwr mwa mke mma mth mtr nra nik), (mrf, .inl (cI, 8, .inl q_15))]) hP hD rfl
          clear hP hD
          obtain ⟨hP, hD⟩ := h9R
          obtain rfl := hr_13
          exact W.iret (v := (-16)) hx hb hr (fun t ht hW => ⟨⟨(-16), q_15, rfl, ⟨(show ((w.toInt < 0 ∨ 2 < w.toInt) ∧ ((-16) : Int32).toInt = -15) ∨ ((0 ≤ w.toInt ∧ w.toInt ≤ 2) ∧ (((n.toInt < 0 ∨ 4 < n.toInt) ∧ ((-16) : Int32).toInt = -16) ∨ ((0 ≤ n.toInt ∧ n.toInt ≤ 4) ∧ ((w.toInt = 1 ∧ ((-16) : Int32).toInt = zNq gki gpa gta npu.toInt.toNat nhu.toInt n.toInt nde.toInt nse.toInt) ∨ (w.toInt ≠ 1 ∧ ((-16) : Int32).toInt = zM gki gpa gta npu.toInt.toNat nhu.toInt (if w.toInt = 2 then 0 else 1) n.toInt.toNat nde.toInt nse.toInt))))) from by (have k16m : ((-16) : Int32).toInt = -16 := (by decide); omega)), trivial⟩, zRet ht hP hD [3, 4, 0, 1, 2] (by decide) rfl⟩, hS.F ht⟩) hS.2.2 dX8_cases_30
      · refine lv_if_ne (tgt := 31) hx hb dX8_cases_21 (by decide) (fun c_16 => ?_) (fun c_16 => ?_)
        · exact absurd c_16 (by decide)
        · refine lv_aload_n hx hb dX8_cases_24 rfl (lv_at hl 0 rfl) ?_
          refine lv_bipush (v := (-6)) hx hb dX8_cases_25 (by decide) ?_
          skip
          refine zw_V (As := [.int (-6)]) (rest := []) (wr := [(mki, .inl (cI, 8, .inl gki)), (mpa, .inl (cI, 8, .inl gpa)), (mta, .inl (cI, 8, .inl gta))]) ⟨hx, hb, hml, hown, hts⟩ (c_M_noTen_6 l D cI cJ cZ cP cS po m0 mrf mki mpa mta mla msl mco mhe mso msi msh mce mca mwo mnu mte mwa mke mma mth mtr (npu) (nte) (nat_) (nde) (nto) (nse) (nhu) (nga) (nsd) (nfa) (nba) (npl) (nen) (nnu) (nwr) (nra) (nik) grf hy0 hy1 hy2 hy3 hy4 hy5 hy6 hy7 hy8 hy9 hy10 hy11 hy12 hy13 H.size) (cwV 1 hts gX8_cases_X8_noTen rfl rfl rfl ⟨rfl, dh_X8_noTen⟩ ⟨Nat.le_of_ble_eq_true rfl, Nat.le_of_ble_eq_true rfl⟩) hK hN (hZ.kept hS) hP hD hS hA [0, 1] [2, 3, 4] rfl rfl (by decide) (by decide) (by decide) (va_recv (q := (RX8, TX8, 38)) hK hP (ci := 8) (q0 := 0) rfl rfl) rfl hl.1 rfl (Nat.le_of_ble_eq_true rfl) dX8_cases_27 ⟨Nat.le_of_ble_eq_true rfl, Nat.le_of_ble_eq_true rfl⟩ (fun r_17 u_18 H locs hr_17 hP hD hS => ?_)
          obtain ⟨q_19, rfl⟩ : ∃ z, z = u_18 := ⟨_, rfl⟩
          have h9R := zRe (ws' := [(mki, .inl (cI, 8, .inl gki)), (mpa, .inl (cI, 8, .inl gpa)), (mta, .inl (cI, 8, .inl gta)), (zMO m0 npu nte nat_ nde nto nse nhu nga nsd nfa mrf mki mpa mta mla msl mco mhe mso msi msh mce mca mwo mnu mte nba npl nen nnu nwr mwa mke mma mth mtr nra nik), (mrf, .inl (cI, 8, .inl q_19))]) hP hD rfl
          clear hP hD
          obtain ⟨hP, hD⟩ := h9R
          obtain rfl := hr_17
          exact W.iret (v := (-16)) hx hb hr (fun t ht hW => ⟨⟨(-16), q_19, rfl, ⟨(show ((w.toInt < 0 ∨ 2 < w.toInt) ∧ ((-16) : Int32).toInt = -15) ∨ ((0 ≤ w.toInt ∧ w.toInt ≤ 2) ∧ (((n.toInt < 0 ∨ 4 < n.toInt) ∧ ((-16) : Int32).toInt = -16) ∨ ((0 ≤ n.toInt ∧ n.toInt ≤ 4) ∧ ((w.toInt = 1 ∧ ((-16) : Int32).toInt = zNq gki gpa gta npu.toInt.toNat nhu.toInt n.toInt nde.toInt nse.toInt) ∨ (w.toInt ≠ 1 ∧ ((-16) : Int32).toInt = zM gki gpa gta npu.toInt.toNat nhu.toInt (if w.toInt = 2 then 0 else 1) n.toInt.toNat nde.toInt nse.toInt))))) from by (have k16m : ((-16) : Int32).toInt = -16 := (by decide); omega)), trivial⟩, zRet ht hP hD [3, 4, 0, 1, 2] (by decide) rfl⟩, hS.F ht⟩) hS.2.2 dX8_cases_30
      · refine lv_if_ne (tgt := 31) hx hb dX8_cases_21 (by decide) (fun c_20 => ?_) (fun c_20 => ?_)
        · have hsp : n = 0 ∨ n = 1 ∨ n = 2 ∨ n = 3 ∨ n = 4 := by
            rcases (show n.toInt = 0 ∨ n.toInt = 1 ∨ n.toInt = 2 ∨ n.toInt = 3 ∨ n.toInt = 4 by omega) with h9 | h9 | h9 | h9 | h9
            · refine Or.inl ?_; exact zf_val h9 (by decide)
            · refine Or.inr (Or.inl ?_); exact zf_val h9 (by decide)
            · refine Or.inr (Or.inr (Or.inl ?_)); exact zf_val h9 (by decide)
            · refine Or.inr (Or.inr (Or.inr (Or.inl ?_))); exact zf_val h9 (by decide)
            · refine Or.inr (Or.inr (Or.inr (Or.inr (?_)))); exact zf_val h9 (by decide)
          rcases hsp with rfl | rfl | rfl | rfl | rfl
          · have kc0 : (0 : Int32).toInt = 0 := by decide
            refine lv_iload_n hx hb dX8_cases_31 rfl (lv_at hl 2 rfl) ?_
            refine lv_iconst (v := 1) hx hb dX8_cases_32 (by decide) ?_
            refine lv_icmp_ne (tgt := 44) hx hb dX8_cases_33 (by decide) (fun c_21 => ?_) (fun c_21 => ?_)
            · have fc_21 : w.toInt ≠ 1 := zf_ne c_21 rfl (by decide)
              refine lv_aload_n hx hb dX8_cases_44 rfl (lv_at hl 0 rfl) ?_
              refine lv_iload_n hx hb dX8_cases_45 rfl (lv_at hl 1 rfl) ?_
              refine lv_aload_n hx hb dX8_cases_46 rfl (lv_at hl 0 rfl) ?_
              refine va_get (D := D) (ci := 8) (v := .int nde) (C := RX8) (T := TX8) (N := 38) hx hb hts hi_X8_cases_8 hown hK hP 0 rfl rfl 3 (by decide) (hts (.fieldLink RX8 115 "TheLiningsInItModel" "depth" "I") (List.mem_of_getElem? (i := 1) rfl)) (fun _ h9 => h9) rfl dX8_cases_47 ?_
              refine lv_aload_n hx hb dX8_cases_50 rfl (lv_at hl 0 rfl) ?_
              refine va_get (D := D) (ci := 8) (v := .int nse) (C := RX8) (T := TX8) (N := 38) hx hb hts hi_X8_cases_8 hown hK hP 0 rfl rfl 5 (by decide) (hts (.fieldLink RX8 13 "TheLiningsInItModel" "seconds" "I") (List.mem_of_getElem? (i := 2) rfl)) (fun _ h9 => h9) rfl dX8_cases_51 ?_
              refine lv_iload_n hx hb dX8_cases_54 rfl (lv_at hl 2 rfl) ?_
              refine lv_iconst (v := 2) hx hb dX8_cases_55 (by decide) ?_
              refine lv_icmp_ne (tgt := 63) hx hb dX8_cases_56 (by decide) (fun c_22 => ?_) (fun c_22 => ?_)
              · have fc_22 : w.toInt ≠ 2 := zf_ne c_22 rfl (by decide)
                refine lv_iconst (v := 0) hx hb dX8_cases_63 (by decide) ?_
                refine zc_V (As := [.int 0, .int nde, .int nse, .int 0]) (rest := []) ⟨hx, hb, hml, hown, hts⟩ (c_F_M_mostCases_0 l D cI cJ cZ cP cS po m0 mrf mki mpa mta mla msl mco mhe mso msi msh mce mca mwo mnu mte mwa mke mma mth mtr (npu) (nte) (nat_) (nde) (nto) (nse) (nhu) (nga) (nsd) (nfa) (nba) (npl) (nen) (nnu) (nwr) (nra) (nik) gki gpa gta (nde) (nse) (0) hy0 hy1 hy2 hy3 hy4 hy5 hy6 hy7 hy8 hy9 hy10 hy11 hy12 hy13 hy6 hy7 hy14 hy15 (by omega) (by omega) hp_gki hp_gpa hp_gta) (cwV 4 hts gX8_cases_X8_mostCases rfl rfl rfl ⟨rfl, dh_X8_mostCases⟩ ⟨Nat.le_of_ble_eq_true rfl, Nat.le_of_ble_eq_true rfl⟩) hK hN (hZ.kept hS) hP (hP.sub [0, 2, 3, 4] rfl) (va_recv (q := (RX8, TX8, 38)) hK hP (ci := 8) (q0 := 0) rfl rfl) rfl hl.1 rfl (Nat.le_of_ble_eq_true rfl) dX8_cases_64 ⟨Nat.le_of_ble_eq_true rfl, Nat.le_of_ble_eq_true rfl⟩ (fun r_23 hr_23 => ?_)
                obtain ⟨g_24, g_25, hsr_23_0⟩ := hr_23
                exact W.iret (v := r_23) hx hb hr (fun t ht hW => ⟨⟨r_23, grf, rfl, ⟨(show ((w.toInt < 0 ∨ 2 < w.toInt) ∧ (r_23 : Int32).toInt = -15) ∨ ((0 ≤ w.toInt ∧ w.toInt ≤ 2) ∧ ((((0 : Int32).toInt < 0 ∨ 4 < (0 : Int32).toInt) ∧ (r_23 : Int32).toInt = -16) ∨ ((0 ≤ (0 : Int32).toInt ∧ (0 : Int32).toInt ≤ 4) ∧ ((w.toInt = 1 ∧ (r_23 : Int32).toInt = zNq gki gpa gta npu.toInt.toNat nhu.toInt (0 : Int32).toInt nde.toInt nse.toInt) ∨ (w.toInt ≠ 1 ∧ (r_23 : Int32).toInt = zM gki gpa gta npu.toInt.toNat nhu.toInt (if w.toInt = 2 then 0 else 1) (0 : Int32).toInt.toNat nde.toInt nse.toInt))))) from by (have k0 : (0 : Int32).toInt = 0 := (by decide); refine Or.inr ⟨by omega, Or.inr ⟨by omega, Or.inr ⟨by omega, (by have z := hsr_23_0; rw [show (0 : Int32).toInt.toNat = 0 from by decide]; first | (rw [if_pos (by omega)]; rw [show (if (1 : Int32).toInt = 0 then (1 : Int) else 0) = 0 from by decide] at z; exact z) | (rw [if_neg (by omega)]; rw [show (if (0 : Int32).toInt = 0 then (1 : Int) else 0) = 1 from by decide] at z; exact z))⟩⟩⟩)), trivial⟩, zRet ht hP hD [0, 1, 2, 3, 4] (by decide) rfl⟩, hS.F ht⟩) hS.2.2 dX8_cases_67
              · have fc_22 : w.toInt = 2 := zf_eq c_22 rfl (by decide)
                refine lv_iconst (v := 1) hx hb dX8_cases_59 (by decide) ?_
                refine lv_goto (tgt := 64) hx hb dX8_cases_60 (by decide) ?_
                have kc1 : (1 : Int32).toInt = 1 := by decide
                refine zc_V (As := [.int 0, .int nde, .int nse, .int 1]) (rest := []) ⟨hx, hb, hml, hown, hts⟩ (c_F_M_mostCases_0 l D cI cJ cZ cP cS po m0 mrf mki mpa mta mla msl mco mhe mso msi msh mce mca mwo mnu mte mwa mke mma mth mtr (npu) (nte) (nat_) (nde) (nto) (nse) (nhu) (nga) (nsd) (nfa) (nba) (npl) (nen) (nnu) (nwr) (nra) (nik) gki gpa gta (nde) (nse) (1) hy0 hy1 hy2 hy3 hy4 hy5 hy6 hy7 hy8 hy9 hy10 hy11 hy12 hy13 hy6 hy7 hy14 hy15 (by omega) (by omega) hp_gki hp_gpa hp_gta) (cwV 4 hts gX8_cases_X8_mostCases rfl rfl rfl ⟨rfl, dh_X8_mostCases⟩ ⟨Nat.le_of_ble_eq_true rfl, Nat.le_of_ble_eq_true rfl⟩) hK hN (hZ.kept hS) hP (hP.sub [0, 2, 3, 4] rfl) (va_recv (q := (RX8, TX8, 38)) hK hP (ci := 8) (q0 := 0) rfl rfl) rfl hl.1 rfl (Nat.le_of_ble_eq_true rfl) dX8_cases_64 ⟨Nat.le_of_ble_eq_true rfl, Nat.le_of_ble_eq_true rfl⟩ (fun r_26 hr_26 => ?_)
                obtain ⟨g_27, g_28, hsr_26_0⟩ := hr_26
                exact W.iret (v := r_26) hx hb hr (fun t ht hW => ⟨⟨r_26, grf, rfl, ⟨(show ((w.toInt < 0 ∨ 2 < w.toInt) ∧ (r_26 : Int32).toInt = -15) ∨ ((0 ≤ w.toInt ∧ w.toInt ≤ 2) ∧ ((((0 : Int32).toInt < 0 ∨ 4 < (0 : Int32).toInt) ∧ (r_26 : Int32).toInt = -16) ∨ ((0 ≤ (0 : Int32).toInt ∧ (0 : Int32).toInt ≤ 4) ∧ ((w.toInt = 1 ∧ (r_26 : Int32).toInt = zNq gki gpa gta npu.toInt.toNat nhu.toInt (0 : Int32).toInt nde.toInt nse.toInt) ∨ (w.toInt ≠ 1 ∧ (r_26 : Int32).toInt = zM gki gpa gta npu.toInt.toNat nhu.toInt (if w.toInt = 2 then 0 else 1) (0 : Int32).toInt.toNat nde.toInt nse.toInt))))) from by (have k0 : (0 : Int32).toInt = 0 := (by decide); refine Or.inr ⟨by omega, Or.inr ⟨by omega, Or.inr ⟨by omega, (by have z := hsr_26_0; rw [show (0 : Int32).toInt.toNat = 0 from by decide]; first | (rw [if_pos (by omega)]; rw [show (if (1 : Int32).toInt = 0 then (1 : Int) else 0) = 0 from by decide] at z; exact z) | (rw [if_neg (by omega)]; rw [show (if (0 : Int32).toInt = 0 then (1 : Int) else 0) = 1 from by decide] at z; exact z))⟩⟩⟩)), trivial⟩, zRet ht hP hD [0, 1, 2, 3, 4] (by decide) rfl⟩, hS.F ht⟩) hS.2.2 dX8_cases_67
            · have fc_21 : w.toInt = 1 := zf_eq c_21 rfl (by decide)
              refine lv_aload_n hx hb dX8_cases_36 rfl (lv_at hl 0 rfl) ?_
              refine lv_iload_n hx hb dX8_cases_37 rfl (lv_at hl 1 rfl) ?_
              refine zc_V (As := [.int 0]) (rest := []) ⟨hx, hb, hml, hown, hts⟩ (c_F_M_nextOf_0 l D cI cJ cZ cP cS po m0 mrf mki mpa mta mla msl mco mhe mso msi msh mce mca mwo mnu mte mwa mke mma mth mtr (npu) (nte) (nat_) (nde) (nto) (nse) (nhu) (nga) (nsd) (nfa) (nba) (npl) (nen) (nnu) (nwr) (nra) (nik) gki gpa gta hy0 hy1 hy2 hy3 hy4 hy5 hy6 hy7 hy8 hy9 hy10 hy11 hy12 hy13 hy14 hy15 hp_gki hp_gpa hp_gta) (cwV 1 hts gX8_cases_X8_nextOf rfl rfl rfl ⟨rfl, dh_X8_nextOf⟩ ⟨Nat.le_of_ble_eq_true rfl, Nat.le_of_ble_eq_true rfl⟩) hK hN (hZ.kept hS) hP (hP.sub [0, 2, 3, 4] rfl) (va_recv (q := (RX8, TX8, 38)) hK hP (ci := 8) (q0 := 0) rfl rfl) rfl hl.1 rfl (Nat.le_of_ble_eq_true rfl) dX8_cases_38 ⟨Nat.le_of_ble_eq_true rfl, Nat.le_of_ble_eq_true rfl⟩ (fun r_29 hr_29 => ?_)
              obtain ⟨g_30, g_31, hsr_29_0⟩ := hr_29
              refine lv_goto (tgt := 67) hx hb dX8_cases_41 (by decide) ?_
              exact W.iret (v := r_29) hx hb hr (fun t ht hW => ⟨⟨r_29, grf, rfl, ⟨(show ((w.toInt < 0 ∨ 2 < w.toInt) ∧ (r_29 : Int32).toInt = -15) ∨ ((0 ≤ w.toInt ∧ w.toInt ≤ 2) ∧ ((((0 : Int32).toInt < 0 ∨ 4 < (0 : Int32).toInt) ∧ (r_29 : Int32).toInt = -16) ∨ ((0 ≤ (0 : Int32).toInt ∧ (0 : Int32).toInt ≤ 4) ∧ ((w.toInt = 1 ∧ (r_29 : Int32).toInt = zNq gki gpa gta npu.toInt.toNat nhu.toInt (0 : Int32).toInt nde.toInt nse.toInt) ∨ (w.toInt ≠ 1 ∧ (r_29 : Int32).toInt = zM gki gpa gta npu.toInt.toNat nhu.toInt (if w.toInt = 2 then 0 else 1) (0 : Int32).toInt.toNat nde.toInt nse.toInt))))) from by (have k0 : (0 : Int32).toInt = 0 := (by decide); refine Or.inr ⟨by omega, Or.inr ⟨by omega, Or.inl ⟨by omega, (by rw [show (0 : Int32).toInt = 0 from by decide]; exact hsr_29_0)⟩⟩⟩)), trivial⟩, zRet ht hP hD [0, 1, 2, 3, 4] (by decide) rfl⟩, hS.F ht⟩) hS.2.2 dX8_cases_67
          · have kc1 : (1 : Int32).toInt = 1 := by decide
            refine lv_iload_n hx hb dX8_cases_31 rfl (lv_at hl 2 rfl) ?_
            refine lv_iconst (v := 1) hx hb dX8_cases_32 (by decide) ?_
            refine lv_icmp_ne (tgt := 44) hx hb dX8_cases_33 (by decide) (fun c_32 => ?_) (fun c_32 => ?_)
            · have fc_32 : w.toInt ≠ 1 := zf_ne c_32 rfl (by decide)
              refine lv_aload_n hx hb dX8_cases_44 rfl (lv_at hl 0 rfl) ?_
              refine lv_iload_n hx hb dX8_cases_45 rfl (lv_at hl 1 rfl) ?_
              refine lv_aload_n hx hb dX8_cases_46 rfl (lv_at hl 0 rfl) ?_
              refine va_get (D := D) (ci := 8) (v := .int nde) (C := RX8) (T := TX8) (N := 38) hx hb hts hi_X8_cases_8 hown hK hP 0 rfl rfl 3 (by decide) (hts (.fieldLink RX8 115 "TheLiningsInItModel" "depth" "I") (List.mem_of_getElem? (i := 1) rfl)) (fun _ h9 => h9) rfl dX8_cases_47 ?_
              refine lv_aload_n hx hb dX8_cases_50 rfl (lv_at hl 0 rfl) ?_
              refine va_get (D := D) (ci := 8) (v := .int nse) (C := RX8) (T := TX8) (N := 38) hx hb hts hi_X8_cases_8 hown hK hP 0 rfl rfl 5 (by decide) (hts (.fieldLink RX8 13 "TheLiningsInItModel" "seconds" "I") (List.mem_of_getElem? (i := 2) rfl)) (fun _ h9 => h9) rfl dX8_cases_51 ?_
              refine lv_iload_n hx hb dX8_cases_54 rfl (lv_at hl 2 rfl) ?_
              refine lv_iconst (v := 2) hx hb dX8_cases_55 (by decide) ?_
              refine lv_icmp_ne (tgt := 63) hx hb dX8_cases_56 (by decide) (fun c_33 => ?_) (fun c_33 => ?_)
              · have fc_33 : w.toInt ≠ 2 := zf_ne c_33 rfl (by decide)
                refine lv_iconst (v := 0) hx hb dX8_cases_63 (by decide) ?_
                have kc0 : (0 : Int32).toInt = 0 := by decide
                refine zc_V (As := [.int 1, .int nde, .int nse, .int 0]) (rest := []) ⟨hx, hb, hml, hown, hts⟩ (c_F_M_mostCases_1 l D cI cJ cZ cP cS po m0 mrf mki mpa mta mla msl mco mhe mso msi msh mce mca mwo mnu mte mwa mke mma mth mtr (npu) (nte) (nat_) (nde) (nto) (nse) (nhu) (nga) (nsd) (nfa) (nba) (npl) (nen) (nnu) (nwr) (nra) (nik) gki gpa gta (nde) (nse) (0) hy0 hy1 hy2 hy3 hy4 hy5 hy6 hy7 hy8 hy9 hy10 hy11 hy12 hy13 hy6 hy7 hy14 hy15 (by omega) (by omega) hp_gki hp_gpa hp_gta) (cwV 4 hts gX8_cases_X8_mostCases rfl rfl rfl ⟨rfl, dh_X8_mostCases⟩ ⟨Nat.le_of_ble_eq_true rfl, Nat.le_of_ble_eq_true rfl⟩) hK hN (hZ.kept hS) hP (hP.sub [0, 2, 3, 4] rfl) (va_recv (q := (RX8, TX8, 38)) hK hP (ci := 8) (q0 := 0) rfl rfl) rfl hl.1 rfl (Nat.le_of_ble_eq_true rfl) dX8_cases_64 ⟨Nat.le_of_ble_eq_true rfl, Nat.le_of_ble_eq_true rfl⟩ (fun r_34 hr_34 => ?_)
                obtain ⟨g_35, g_36, hsr_34_0⟩ := hr_34
                exact W.iret (v := r_34) hx hb hr (fun t ht hW => ⟨⟨r_34, grf, rfl, ⟨(show ((w.toInt < 0 ∨ 2 < w.toInt) ∧ (r_34 : Int32).toInt = -15) ∨ ((0 ≤ w.toInt ∧ w.toInt ≤ 2) ∧ ((((1 : Int32).toInt < 0 ∨ 4 < (1 : Int32).toInt) ∧ (r_34 : Int32).toInt = -16) ∨ ((0 ≤ (1 : Int32).toInt ∧ (1 : Int32).toInt ≤ 4) ∧ ((w.toInt = 1 ∧ (r_34 : Int32).toInt = zNq gki gpa gta npu.toInt.toNat nhu.toInt (1 : Int32).toInt nde.toInt nse.toInt) ∨ (w.toInt ≠ 1 ∧ (r_34 : Int32).toInt = zM gki gpa gta npu.toInt.toNat nhu.toInt (if w.toInt = 2 then 0 else 1) (1 : Int32).toInt.toNat nde.toInt nse.toInt))))) from by (have k1 : (1 : Int32).toInt = 1 := (by decide); refine Or.inr ⟨by omega, Or.inr ⟨by omega, Or.inr ⟨by omega, (by have z := hsr_34_0; rw [show (1 : Int32).toInt.toNat = 1 from by decide]; first | (rw [if_pos (by omega)]; rw [show (if (1 : Int32).toInt = 0 then (1 : Int) else 0) = 0 from by decide] at z; exact z) | (rw [if_neg (by omega)]; rw [show (if (0 : Int32).toInt = 0 then (1 : Int) else 0) = 1 from by decide] at z; exact z))⟩⟩⟩)), trivial⟩, zRet ht hP hD [0, 1, 2, 3, 4] (by decide) rfl⟩, hS.F ht⟩) hS.2.2 dX8_cases_67
              · have fc_33 : w.toInt = 2 := zf_eq c_33 rfl (by decide)
                refine lv_iconst (v := 1) hx hb dX8_cases_59 (by decide) ?_
                refine lv_goto (tgt := 64) hx hb dX8_cases_60 (by decide) ?_
                refine zc_V (As := [.int 1, .int nde, .int nse, .int 1]) (rest := []) ⟨hx, hb, hml, hown, hts⟩ (c_F_M_mostCases_1 l D cI cJ cZ cP cS po m0 mrf mki mpa mta mla msl mco mhe mso msi msh mce mca mwo mnu mte mwa mke mma mth mtr (npu) (nte) (nat_) (nde) (nto) (nse) (nhu) (nga) (nsd) (nfa) (nba) (npl) (nen) (nnu) (nwr) (nra) (nik) gki gpa gta (nde) (nse) (1) hy0 hy1 hy2 hy3 hy4 hy5 hy6 hy7 hy8 hy9 hy10 hy11 hy12 hy13 hy6 hy7 hy14 hy15 (by omega) (by omega) hp_gki hp_gpa hp_gta) (cwV 4 hts gX8_cases_X8_mostCases rfl rfl rfl ⟨rfl, dh_X8_mostCases⟩ ⟨Nat.le_of_ble_eq_true rfl, Nat.le_of_ble_eq_true rfl⟩) hK hN (hZ.kept hS) hP (hP.sub [0, 2, 3, 4] rfl) (va_recv (q := (RX8, TX8, 38)) hK hP (ci := 8) (q0 := 0) rfl rfl) rfl hl.1 rfl (Nat.le_of_ble_eq_true rfl) dX8_cases_64 ⟨Nat.le_of_ble_eq_true rfl, Nat.le_of_ble_eq_true rfl⟩ (fun r_37 hr_37 => ?_)
                obtain ⟨g_38, g_39, hsr_37_0⟩ := hr_37
                exact W.iret (v := r_37) hx hb hr (fun t ht hW => ⟨⟨r_37, grf, rfl, ⟨(show ((w.toInt < 0 ∨ 2 < w.toInt) ∧ (r_37 : Int32).toInt = -15) ∨ ((0 ≤ w.toInt ∧ w.toInt ≤ 2) ∧ ((((1 : Int32).toInt < 0 ∨ 4 < (1 : Int32).toInt) ∧ (r_37 : Int32).toInt = -16) ∨ ((0 ≤ (1 : Int32).toInt ∧ (1 : Int32).toInt ≤ 4) ∧ ((w.toInt = 1 ∧ (r_37 : Int32).toInt = zNq gki gpa gta npu.toInt.toNat nhu.toInt (1 : Int32).toInt nde.toInt nse.toInt) ∨ (w.toInt ≠ 1 ∧ (r_37 : Int32).toInt = zM gki gpa gta npu.toInt.toNat nhu.toInt (if w.toInt = 2 then 0 else 1) (1 : Int32).toInt.toNat nde.toInt nse.toInt))))) from by (have k1 : (1 : Int32).toInt = 1 := (by decide); refine Or.inr ⟨by omega, Or.inr ⟨by omega, Or.inr ⟨by omega, (by have z := hsr_37_0; rw [show (1 : Int32).toInt.toNat = 1 from by decide]; first | (rw [if_pos (by omega)]; rw [show (if (1 : Int32).toInt = 0 then (1 : Int) else 0) = 0 from by decide] at z; exact z) | (rw [if_neg (by omega)]; rw [show (if (0 : Int32).toInt = 0 then (1 : Int) else 0) = 1 from by decide] at z; exact z))⟩⟩⟩)), trivial⟩, zRet ht hP hD [0, 1, 2, 3, 4] (by decide) rfl⟩, hS.F ht⟩) hS.2.2 dX8_cases_67
            · have fc_32 : w.toInt = 1 := zf_eq c_32 rfl (by decide)
              refine lv_aload_n hx hb dX8_cases_36 rfl (lv_at hl 0 rfl) ?_
              refine lv_iload_n hx hb dX8_cases_37 rfl (lv_at hl 1 rfl) ?_
              refine zc_V (As := [.int 1]) (rest := []) ⟨hx, hb, hml, hown, hts⟩ (c_F_M_nextOf_1 l D cI cJ cZ cP cS po m0 mrf mki mpa mta mla msl mco mhe mso msi msh mce mca mwo mnu mte mwa mke mma mth mtr (npu) (nte) (nat_) (nde) (nto) (nse) (nhu) (nga) (nsd) (nfa) (nba) (npl) (nen) (nnu) (nwr) (nra) (nik) gki gpa gta hy0 hy1 hy2 hy3 hy4 hy5 hy6 hy7 hy8 hy9 hy10 hy11 hy12 hy13 hy14 hy15 hp_gki hp_gpa hp_gta) (cwV 1 hts gX8_cases_X8_nextOf rfl rfl rfl ⟨rfl, dh_X8_nextOf⟩ ⟨Nat.le_of_ble_eq_true rfl, Nat.le_of_ble_eq_true rfl⟩) hK hN (hZ.kept hS) hP (hP.sub [0, 2, 3, 4] rfl) (va_recv (q := (RX8, TX8, 38)) hK hP (ci := 8) (q0 := 0) rfl rfl) rfl hl.1 rfl (Nat.le_of_ble_eq_true rfl) dX8_cases_38 ⟨Nat.le_of_ble_eq_true rfl, Nat.le_of_ble_eq_true rfl⟩ (fun r_40 hr_40 => ?_)
              obtain ⟨g_41, g_42, hsr_40_0⟩ := hr_40
              refine lv_goto (tgt := 67) hx hb dX8_cases_41 (by decide) ?_
              exact W.iret (v := r_40) hx hb hr (fun t ht hW => ⟨⟨r_40, grf, rfl, ⟨(show ((w.toInt < 0 ∨ 2 < w.toInt) ∧ (r_40 : Int32).toInt = -15) ∨ ((0 ≤ w.toInt ∧ w.toInt ≤ 2) ∧ ((((1 : Int32).toInt < 0 ∨ 4 < (1 : Int32).toInt) ∧ (r_40 : Int32).toInt = -16) ∨ ((0 ≤ (1 : Int32).toInt ∧ (1 : Int32).toInt ≤ 4) ∧ ((w.toInt = 1 ∧ (r_40 : Int32).toInt = zNq gki gpa gta npu.toInt.toNat nhu.toInt (1 : Int32).toInt nde.toInt nse.toInt) ∨ (w.toInt ≠ 1 ∧ (r_40 : Int32).toInt = zM gki gpa gta npu.toInt.toNat nhu.toInt (if w.toInt = 2 then 0 else 1) (1 : Int32).toInt.toNat nde.toInt nse.toInt))))) from by (have k1 : (1 : Int32).toInt = 1 := (by decide); refine Or.inr ⟨by omega, Or.inr ⟨by omega, Or.inl ⟨by omega, (by rw [show (1 : Int32).toInt = 1 from by decide]; exact hsr_40_0)⟩⟩⟩)), trivial⟩, zRet ht hP hD [0, 1, 2, 3, 4] (by decide) rfl⟩, hS.F ht⟩) hS.2.2 dX8_cases_67
          · have kc2 : (2 : Int32).toInt = 2 := by decide
            refine lv_iload_n hx hb dX8_cases_31 rfl (lv_at hl 2 rfl) ?_
            refine lv_iconst (v := 1) hx hb dX8_cases_32 (by decide) ?_
            refine lv_icmp_ne (tgt := 44) hx hb dX8_cases_33 (by decide) (fun c_43 => ?_) (fun c_43 => ?_)
            · have fc_43 : w.toInt ≠ 1 := zf_ne c_43 rfl (by decide)
              refine lv_aload_n hx hb dX8_cases_44 rfl (lv_at hl 0 rfl) ?_
              refine lv_iload_n hx hb dX8_cases_45 rfl (lv_at hl 1 rfl) ?_
              refine lv_aload_n hx hb dX8_cases_46 rfl (lv_at hl 0 rfl) ?_
              refine va_get (D := D) (ci := 8) (v := .int nde) (C := RX8) (T := TX8) (N := 38) hx hb hts hi_X8_cases_8 hown hK hP 0 rfl rfl 3 (by decide) (hts (.fieldLink RX8 115 "TheLiningsInItModel" "depth" "I") (List.mem_of_getElem? (i := 1) rfl)) (fun _ h9 => h9) rfl dX8_cases_47 ?_
              refine lv_aload_n hx hb dX8_cases_50 rfl (lv_at hl 0 rfl) ?_
              refine va_get (D := D) (ci := 8) (v := .int nse) (C := RX8) (T := TX8) (N := 38) hx hb hts hi_X8_cases_8 hown hK hP 0 rfl rfl 5 (by decide) (hts (.fieldLink RX8 13 "TheLiningsInItModel" "seconds" "I") (List.mem_of_getElem? (i := 2) rfl)) (fun _ h9 => h9) rfl dX8_cases_51 ?_
              refine lv_iload_n hx hb dX8_cases_54 rfl (lv_at hl 2 rfl) ?_
              refine lv_iconst (v := 2) hx hb dX8_cases_55 (by decide) ?_
              refine lv_icmp_ne (tgt := 63) hx hb dX8_cases_56 (by decide) (fun c_44 => ?_) (fun c_44 => ?_)
              · have fc_44 : w.toInt ≠ 2 := zf_ne c_44 rfl (by decide)
                refine lv_iconst (v := 0) hx hb dX8_cases_63 (by decide) ?_
                have kc0 : (0 : Int32).toInt = 0 := by decide
                refine zc_V (As := [.int 2, .int nde, .int nse, .int 0]) (rest := []) ⟨hx, hb, hml, hown, hts⟩ (c_F_M_mostCases_2 l D cI cJ cZ cP cS po m0 mrf mki mpa mta mla msl mco mhe mso msi msh mce mca mwo mnu mte mwa mke mma mth mtr (npu) (nte) (nat_) (nde) (nto) (nse) (nhu) (nga) (nsd) (nfa) (nba) (npl) (nen) (nnu) (nwr) (nra) (nik) gki gpa gta (nde) (nse) (0) hy0 hy1 hy2 hy3 hy4 hy5 hy6 hy7 hy8 hy9 hy10 hy11 hy12 hy13 hy6 hy7 hy14 hy15 (by omega) (by omega) hp_gki hp_gpa hp_gta) (cwV 4 hts gX8_cases_X8_mostCases rfl rfl rfl ⟨rfl, dh_X8_mostCases⟩ ⟨Nat.le_of_ble_eq_true rfl, Nat.le_of_ble_eq_true rfl⟩) hK hN (hZ.kept hS) hP (hP.sub [0, 2, 3, 4] rfl) (va_recv (q := (RX8, TX8, 38)) hK hP (ci := 8) (q0 := 0) rfl rfl) rfl hl.1 rfl (Nat.le_of_ble_eq_true rfl) dX8_cases_64 ⟨Nat.le_of_ble_eq_true rfl, Nat.le_of_ble_eq_true rfl⟩ (fun r_45 hr_45 => ?_)
                obtain ⟨g_46, g_47, hsr_45_0⟩ := hr_45
                exact W.iret (v := r_45) hx hb hr (fun t ht hW => ⟨⟨r_45, grf, rfl, ⟨(show ((w.toInt < 0 ∨ 2 < w.toInt) ∧ (r_45 : Int32).toInt = -15) ∨ ((0 ≤ w.toInt ∧ w.toInt ≤ 2) ∧ ((((2 : Int32).toInt < 0 ∨ 4 < (2 : Int32).toInt) ∧ (r_45 : Int32).toInt = -16) ∨ ((0 ≤ (2 : Int32).toInt ∧ (2 : Int32).toInt ≤ 4) ∧ ((w.toInt = 1 ∧ (r_45 : Int32).toInt = zNq gki gpa gta npu.toInt.toNat nhu.toInt (2 : Int32).toInt nde.toInt nse.toInt) ∨ (w.toInt ≠ 1 ∧ (r_45 : Int32).toInt = zM gki gpa gta npu.toInt.toNat nhu.toInt (if w.toInt = 2 then 0 else 1) (2 : Int32).toInt.toNat nde.toInt nse.toInt))))) from by (have k2 : (2 : Int32).toInt = 2 := (by decide); refine Or.inr ⟨by omega, Or.inr ⟨by omega, Or.inr ⟨by omega, (by have z := hsr_45_0; rw [show (2 : Int32).toInt.toNat = 2 from by decide]; first | (rw [if_pos (by omega)]; rw [show (if (1 : Int32).toInt = 0 then (1 : Int) else 0) = 0 from by decide] at z; exact z) | (rw [if_neg (by omega)]; rw [show (if (0 : Int32).toInt = 0 then (1 : Int) else 0) = 1 from by decide] at z; exact z))⟩⟩⟩)), trivial⟩, zRet ht hP hD [0, 1, 2, 3, 4] (by decide) rfl⟩, hS.F ht⟩) hS.2.2 dX8_cases_67
              · have fc_44 : w.toInt = 2 := zf_eq c_44 rfl (by decide)
                refine lv_iconst (v := 1) hx hb dX8_cases_59 (by decide) ?_
                refine lv_goto (tgt := 64) hx hb dX8_cases_60 (by decide) ?_
                have kc1 : (1 : Int32).toInt = 1 := by decide
                refine zc_V (As := [.int 2, .int nde, .int nse, .int 1]) (rest := []) ⟨hx, hb, hml, hown, hts⟩ (c_F_M_mostCases_2 l D cI cJ cZ cP cS po m0 mrf mki mpa mta mla msl mco mhe mso msi msh mce mca mwo mnu mte mwa mke mma mth mtr (npu) (nte) (nat_) (nde) (nto) (nse) (nhu) (nga) (nsd) (nfa) (nba) (npl) (nen) (nnu) (nwr) (nra) (nik) gki gpa gta (nde) (nse) (1) hy0 hy1 hy2 hy3 hy4 hy5 hy6 hy7 hy8 hy9 hy10 hy11 hy12 hy13 hy6 hy7 hy14 hy15 (by omega) (by omega) hp_gki hp_gpa hp_gta) (cwV 4 hts gX8_cases_X8_mostCases rfl rfl rfl ⟨rfl, dh_X8_mostCases⟩ ⟨Nat.le_of_ble_eq_true rfl, Nat.le_of_ble_eq_true rfl⟩) hK hN (hZ.kept hS) hP (hP.sub [0, 2, 3, 4] rfl) (va_recv (q := (RX8, TX8, 38)) hK hP (ci := 8) (q0 := 0) rfl rfl) rfl hl.1 rfl (Nat.le_of_ble_eq_true rfl) dX8_cases_64 ⟨Nat.le_of_ble_eq_true rfl, Nat.le_of_ble_eq_true rfl⟩ (fun r_48 hr_48 => ?_)
                obtain ⟨g_49, g_50, hsr_48_0⟩ := hr_48
                exact W.iret (v := r_48) hx hb hr (fun t ht hW => ⟨⟨r_48, grf, rfl, ⟨(show ((w.toInt < 0 ∨ 2 < w.toInt) ∧ (r_48 : Int32).toInt = -15) ∨ ((0 ≤ w.toInt ∧ w.toInt ≤ 2) ∧ ((((2 : Int32).toInt < 0 ∨ 4 < (2 : Int32).toInt) ∧ (r_48 : Int32).toInt = -16) ∨ ((0 ≤ (2 : Int32).toInt ∧ (2 : Int32).toInt ≤ 4) ∧ ((w.toInt = 1 ∧ (r_48 : Int32).toInt = zNq gki gpa gta npu.toInt.toNat nhu.toInt (2 : Int32).toInt nde.toInt nse.toInt) ∨ (w.toInt ≠ 1 ∧ (r_48 : Int32).toInt = zM gki gpa gta npu.toInt.toNat nhu.toInt (if w.toInt = 2 then 0 else 1) (2 : Int32).toInt.toNat nde.toInt nse.toInt))))) from by (have k2 : (2 : Int32).toInt = 2 := (by decide); refine Or.inr ⟨by omega, Or.inr ⟨by omega, Or.inr ⟨by omega, (by have z := hsr_48_0; rw [show (2 : Int32).toInt.toNat = 2 from by decide]; first | (rw [if_pos (by omega)]; rw [show (if (1 : Int32).toInt = 0 then (1 : Int) else 0) = 0 from by decide] at z; exact z) | (rw [if_neg (by omega)]; rw [show (if (0 : Int32).toInt = 0 then (1 : Int) else 0) = 1 from by decide] at z; exact z))⟩⟩⟩)), trivial⟩, zRet ht hP hD [0, 1, 2, 3, 4] (by decide) rfl⟩, hS.F ht⟩) hS.2.2 dX8_cases_67
            · have fc_43 : w.toInt = 1 := zf_eq c_43 rfl (by decide)
              refine lv_aload_n hx hb dX8_cases_36 rfl (lv_at hl 0 rfl) ?_
              refine lv_iload_n hx hb dX8_cases_37 rfl (lv_at hl 1 rfl) ?_
              refine zc_V (As := [.int 2]) (rest := []) ⟨hx, hb, hml, hown, hts⟩ (c_F_M_nextOf_2 l D cI cJ cZ cP cS po m0 mrf mki mpa mta mla msl mco mhe mso msi msh mce mca mwo mnu mte mwa mke mma mth mtr (npu) (nte) (nat_) (nde) (nto) (nse) (nhu) (nga) (nsd) (nfa) (nba) (npl) (nen) (nnu) (nwr) (nra) (nik) gki gpa gta hy0 hy1 hy2 hy3 hy4 hy5 hy6 hy7 hy8 hy9 hy10 hy11 hy12 hy13 hy14 hy15 hp_gki hp_gpa hp_gta) (cwV 1 hts gX8_cases_X8_nextOf rfl rfl rfl ⟨rfl, dh_X8_nextOf⟩ ⟨Nat.le_of_ble_eq_true rfl, Nat.le_of_ble_eq_true rfl⟩) hK hN (hZ.kept hS) hP (hP.sub [0, 2, 3, 4] rfl) (va_recv (q := (RX8, TX8, 38)) hK hP (ci := 8) (q0 := 0) rfl rfl) rfl hl.1 rfl (Nat.le_of_ble_eq_true rfl) dX8_cases_38 ⟨Nat.le_of_ble_eq_true rfl, Nat.le_of_ble_eq_true rfl⟩ (fun r_51 hr_51 => ?_)
              obtain ⟨g_52, g_53, hsr_51_0⟩ := hr_51
              refine lv_goto (tgt := 67) hx hb dX8_cases_41 (by decide) ?_
              exact W.iret (v := r_51) hx hb hr (fun t ht hW => ⟨⟨r_51, grf, rfl, ⟨(show ((w.toInt < 0 ∨ 2 < w.toInt) ∧ (r_51 : Int32).toInt = -15) ∨ ((0 ≤ w.toInt ∧ w.toInt ≤ 2) ∧ ((((2 : Int32).toInt < 0 ∨ 4 < (2 : Int32).toInt) ∧ (r_51 : Int32).toInt = -16) ∨ ((0 ≤ (2 : Int32).toInt ∧ (2 : Int32).toInt ≤ 4) ∧ ((w.toInt = 1 ∧ (r_51 : Int32).toInt = zNq gki gpa gta npu.toInt.toNat nhu.toInt (2 : Int32).toInt nde.toInt nse.toInt) ∨ (w.toInt ≠ 1 ∧ (r_51 : Int32).toInt = zM gki gpa gta npu.toInt.toNat nhu.toInt (if w.toInt = 2 then 0 else 1) (2 : Int32).toInt.toNat nde.toInt nse.toInt))))) from by (have k2 : (2 : Int32).toInt = 2 := (by decide); refine Or.inr ⟨by omega, Or.inr ⟨by omega, Or.inl ⟨by omega, (by rw [show (2 : Int32).toInt = 2 from by decide]; exact hsr_51_0)⟩⟩⟩)), trivial⟩, zRet ht hP hD [0, 1, 2, 3, 4] (by decide) rfl⟩, hS.F ht⟩) hS.2.2 dX8_cases_67
          · have kc3 : (3 : Int32).toInt = 3 := by decide
            refine lv_iload_n hx hb dX8_cases_31 rfl (lv_at hl 2 rfl) ?_
            refine lv_iconst (v := 1) hx hb dX8_cases_32 (by decide) ?_
            refine lv_icmp_ne (tgt := 44) hx hb dX8_cases_33 (by decide) (fun c_54 => ?_) (fun c_54 => ?_)
            · have fc_54 : w.toInt ≠ 1 := zf_ne c_54 rfl (by decide)
              refine lv_aload_n hx hb dX8_cases_44 rfl (lv_at hl 0 rfl) ?_
              refine lv_iload_n hx hb dX8_cases_45 rfl (lv_at hl 1 rfl) ?_
              refine lv_aload_n hx hb dX8_cases_46 rfl (lv_at hl 0 rfl) ?_
              refine va_get (D := D) (ci := 8) (v := .int nde) (C := RX8) (T := TX8) (N := 38) hx hb hts hi_X8_cases_8 hown hK hP 0 rfl rfl 3 (by decide) (hts (.fieldLink RX8 115 "TheLiningsInItModel" "depth" "I") (List.mem_of_getElem? (i := 1) rfl)) (fun _ h9 => h9) rfl dX8_cases_47 ?_
              refine lv_aload_n hx hb dX8_cases_50 rfl (lv_at hl 0 rfl) ?_
              refine va_get (D := D) (ci := 8) (v := .int nse) (C := RX8) (T := TX8) (N := 38) hx hb hts hi_X8_cases_8 hown hK hP 0 rfl rfl 5 (by decide) (hts (.fieldLink RX8 13 "TheLiningsInItModel" "seconds" "I") (List.mem_of_getElem? (i := 2) rfl)) (fun _ h9 => h9) rfl dX8_cases_51 ?_
              refine lv_iload_n hx hb dX8_cases_54 rfl (lv_at hl 2 rfl) ?_
              refine lv_iconst (v := 2) hx hb dX8_cases_55 (by decide) ?_
              refine lv_icmp_ne (tgt := 63) hx hb dX8_cases_56 (by decide) (fun c_55 => ?_) (fun c_55 => ?_)
              · have fc_55 : w.toInt ≠ 2 := zf_ne c_55 rfl (by decide)
                refine lv_iconst (v := 0) hx hb dX8_cases_63 (by decide) ?_
                have kc0 : (0 : Int32).toInt = 0 := by decide
                refine zc_V (As := [.int 3, .int nde, .int nse, .int 0]) (rest := []) ⟨hx, hb, hml, hown, hts⟩ (c_F_M_mostCases_3 l D cI cJ cZ cP cS po m0 mrf mki mpa mta mla msl mco mhe mso msi msh mce mca mwo mnu mte mwa mke mma mth mtr (npu) (nte) (nat_) (nde) (nto) (nse) (nhu) (nga) (nsd) (nfa) (nba) (npl) (nen) (nnu) (nwr) (nra) (nik) gki gpa gta (nde) (nse) (0) hy0 hy1 hy2 hy3 hy4 hy5 hy6 hy7 hy8 hy9 hy10 hy11 hy12 hy13 hy6 hy7 hy14 hy15 (by omega) (by omega) hp_gki hp_gpa hp_gta) (cwV 4 hts gX8_cases_X8_mostCases rfl rfl rfl ⟨rfl, dh_X8_mostCases⟩ ⟨Nat.le_of_ble_eq_true rfl, Nat.le_of_ble_eq_true rfl⟩) hK hN (hZ.kept hS) hP (hP.sub [0, 2, 3, 4] rfl) (va_recv (q := (RX8, TX8, 38)) hK hP (ci := 8) (q0 := 0) rfl rfl) rfl hl.1 rfl (Nat.le_of_ble_eq_true rfl) dX8_cases_64 ⟨Nat.le_of_ble_eq_true rfl, Nat.le_of_ble_eq_true rfl⟩ (fun r_56 hr_56 => ?_)
                obtain ⟨g_57, g_58, hsr_56_0⟩ := hr_56
                exact W.iret (v := r_56) hx hb hr (fun t ht hW => ⟨⟨r_56, grf, rfl, ⟨(show ((w.toInt < 0 ∨ 2 < w.toInt) ∧ (r_56 : Int32).toInt = -15) ∨ ((0 ≤ w.toInt ∧ w.toInt ≤ 2) ∧ ((((3 : Int32).toInt < 0 ∨ 4 < (3 : Int32).toInt) ∧ (r_56 : Int32).toInt = -16) ∨ ((0 ≤ (3 : Int32).toInt ∧ (3 : Int32).toInt ≤ 4) ∧ ((w.toInt = 1 ∧ (r_56 : Int32).toInt = zNq gki gpa gta npu.toInt.toNat nhu.toInt (3 : Int32).toInt nde.toInt nse.toInt) ∨ (w.toInt ≠ 1 ∧ (r_56 : Int32).toInt = zM gki gpa gta npu.toInt.toNat nhu.toInt (if w.toInt = 2 then 0 else 1) (3 : Int32).toInt.toNat nde.toInt nse.toInt))))) from by (have k3 : (3 : Int32).toInt = 3 := (by decide); refine Or.inr ⟨by omega, Or.inr ⟨by omega, Or.inr ⟨by omega, (by have z := hsr_56_0; rw [show (3 : Int32).toInt.toNat = 3 from by decide]; first | (rw [if_pos (by omega)]; rw [show (if (1 : Int32).toInt = 0 then (1 : Int) else 0) = 0 from by decide] at z; exact z) | (rw [if_neg (by omega)]; rw [show (if (0 : Int32).toInt = 0 then (1 : Int) else 0) = 1 from by decide] at z; exact z))⟩⟩⟩)), trivial⟩, zRet ht hP hD [0, 1, 2, 3, 4] (by decide) rfl⟩, hS.F ht⟩) hS.2.2 dX8_cases_67
              · have fc_55 : w.toInt = 2 := zf_eq c_55 rfl (by decide)
                refine lv_iconst (v := 1) hx hb dX8_cases_59 (by decide) ?_
                refine lv_goto (tgt := 64) hx hb dX8_cases_60 (by decide) ?_
                have kc1 : (1 : Int32).toInt = 1 := by decide
                refine zc_V (As := [.int 3, .int nde, .int nse, .int 1]) (rest := []) ⟨hx, hb, hml, hown, hts⟩ (c_F_M_mostCases_3 l D cI cJ cZ cP cS po m0 mrf mki mpa mta mla msl mco mhe mso msi msh mce mca mwo mnu mte mwa mke mma mth mtr (npu) (nte) (nat_) (nde) (nto) (nse) (nhu) (nga) (nsd) (nfa) (nba) (npl) (nen) (nnu) (nwr) (nra) (nik) gki gpa gta (nde) (nse) (1) hy0 hy1 hy2 hy3 hy4 hy5 hy6 hy7 hy8 hy9 hy10 hy11 hy12 hy13 hy6 hy7 hy14 hy15 (by omega) (by omega) hp_gki hp_gpa hp_gta) (cwV 4 hts gX8_cases_X8_mostCases rfl rfl rfl ⟨rfl, dh_X8_mostCases⟩ ⟨Nat.le_of_ble_eq_true rfl, Nat.le_of_ble_eq_true rfl⟩) hK hN (hZ.kept hS) hP (hP.sub [0, 2, 3, 4] rfl) (va_recv (q := (RX8, TX8, 38)) hK hP (ci := 8) (q0 := 0) rfl rfl) rfl hl.1 rfl (Nat.le_of_ble_eq_true rfl) dX8_cases_64 ⟨Nat.le_of_ble_eq_true rfl, Nat.le_of_ble_eq_true rfl⟩ (fun r_59 hr_59 => ?_)
                obtain ⟨g_60, g_61, hsr_59_0⟩ := hr_59
                exact W.iret (v := r_59) hx hb hr (fun t ht hW => ⟨⟨r_59, grf, rfl, ⟨(show ((w.toInt < 0 ∨ 2 < w.toInt) ∧ (r_59 : Int32).toInt = -15) ∨ ((0 ≤ w.toInt ∧ w.toInt ≤ 2) ∧ ((((3 : Int32).toInt < 0 ∨ 4 < (3 : Int32).toInt) ∧ (r_59 : Int32).toInt = -16) ∨ ((0 ≤ (3 : Int32).toInt ∧ (3 : Int32).toInt ≤ 4) ∧ ((w.toInt = 1 ∧ (r_59 : Int32).toInt = zNq gki gpa gta npu.toInt.toNat nhu.toInt (3 : Int32).toInt nde.toInt nse.toInt) ∨ (w.toInt ≠ 1 ∧ (r_59 : Int32).toInt = zM gki gpa gta npu.toInt.toNat nhu.toInt (if w.toInt = 2 then 0 else 1) (3 : Int32).toInt.toNat nde.toInt nse.toInt))))) from by (have k3 : (3 : Int32).toInt = 3 := (by decide); refine Or.inr ⟨by omega, Or.inr ⟨by omega, Or.inr ⟨by omega, (by have z := hsr_59_0; rw [show (3 : Int32).toInt.toNat = 3 from by decide]; first | (rw [if_pos (by omega)]; rw [show (if (1 : Int32).toInt = 0 then (1 : Int) else 0) = 0 from by decide] at z; exact z) | (rw [if_neg (by omega)]; rw [show (if (0 : Int32).toInt = 0 then (1 : Int) else 0) = 1 from by decide] at z; exact z))⟩⟩⟩)), trivial⟩, zRet ht hP hD [0, 1, 2, 3, 4] (by decide) rfl⟩, hS.F ht⟩) hS.2.2 dX8_cases_67
            · have fc_54 : w.toInt = 1 := zf_eq c_54 rfl (by decide)
              refine lv_aload_n hx hb dX8_cases_36 rfl (lv_at hl 0 rfl) ?_
              refine lv_iload_n hx hb dX8_cases_37 rfl (lv_at hl 1 rfl) ?_
              refine zc_V (As := [.int 3]) (rest := []) ⟨hx, hb, hml, hown, hts⟩ (c_F_M_nextOf_3 l D cI cJ cZ cP cS po m0 mrf mki mpa mta mla msl mco mhe mso msi msh mce mca mwo mnu mte mwa mke mma mth mtr (npu) (nte) (nat_) (nde) (nto) (nse) (nhu) (nga) (nsd) (nfa) (nba) (npl) (nen) (nnu) (nwr) (nra) (nik) gki gpa gta hy0 hy1 hy2 hy3 hy4 hy5 hy6 hy7 hy8 hy9 hy10 hy11 hy12 hy13 hy14 hy15 hp_gki hp_gpa hp_gta) (cwV 1 hts gX8_cases_X8_nextOf rfl rfl rfl ⟨rfl, dh_X8_nextOf⟩ ⟨Nat.le_of_ble_eq_true rfl, Nat.le_of_ble_eq_true rfl⟩) hK hN (hZ.kept hS) hP (hP.sub [0, 2, 3, 4] rfl) (va_recv (q := (RX8, TX8, 38)) hK hP (ci := 8) (q0 := 0) rfl rfl) rfl hl.1 rfl (Nat.le_of_ble_eq_true rfl) dX8_cases_38 ⟨Nat.le_of_ble_eq_true rfl, Nat.le_of_ble_eq_true rfl⟩ (fun r_62 hr_62 => ?_)
              obtain ⟨g_63, g_64, hsr_62_0⟩ := hr_62
              refine lv_goto (tgt := 67) hx hb dX8_cases_41 (by decide) ?_
              exact W.iret (v := r_62) hx hb hr (fun t ht hW => ⟨⟨r_62, grf, rfl, ⟨(show ((w.toInt < 0 ∨ 2 < w.toInt) ∧ (r_62 : Int32).toInt = -15) ∨ ((0 ≤ w.toInt ∧ w.toInt ≤ 2) ∧ ((((3 : Int32).toInt < 0 ∨ 4 < (3 : Int32).toInt) ∧ (r_62 : Int32).toInt = -16) ∨ ((0 ≤ (3 : Int32).toInt ∧ (3 : Int32).toInt ≤ 4) ∧ ((w.toInt = 1 ∧ (r_62 : Int32).toInt = zNq gki gpa gta npu.toInt.toNat nhu.toInt (3 : Int32).toInt nde.toInt nse.toInt) ∨ (w.toInt ≠ 1 ∧ (r_62 : Int32).toInt = zM gki gpa gta npu.toInt.toNat nhu.toInt (if w.toInt = 2 then 0 else 1) (3 : Int32).toInt.toNat nde.toInt nse.toInt))))) from by (have k3 : (3 : Int32).toInt = 3 := (by decide); refine Or.inr ⟨by omega, Or.inr ⟨by omega, Or.inl ⟨by omega, (by rw [show (3 : Int32).toInt = 3 from by decide]; exact hsr_62_0)⟩⟩⟩)), trivial⟩, zRet ht hP hD [0, 1, 2, 3, 4] (by decide) rfl⟩, hS.F ht⟩) hS.2.2 dX8_cases_67
          · have kc4 : (4 : Int32).toInt = 4 := by decide
            refine lv_iload_n hx hb dX8_cases_31 rfl (lv_at hl 2 rfl) ?_
            refine lv_iconst (v := 1) hx hb dX8_cases_32 (by decide) ?_
            refine lv_icmp_ne (tgt := 44) hx hb dX8_cases_33 (by decide) (fun c_65 => ?_) (fun c_65 => ?_)
            · have fc_65 : w.toInt ≠ 1 := zf_ne c_65 rfl (by decide)
              refine lv_aload_n hx hb dX8_cases_44 rfl (lv_at hl 0 rfl) ?_
              refine lv_iload_n hx hb dX8_cases_45 rfl (lv_at hl 1 rfl) ?_
              refine lv_aload_n hx hb dX8_cases_46 rfl (lv_at hl 0 rfl) ?_
              refine va_get (D := D) (ci := 8) (v := .int nde) (C := RX8) (T := TX8) (N := 38) hx hb hts hi_X8_cases_8 hown hK hP 0 rfl rfl 3 (by decide) (hts (.fieldLink RX8 115 "TheLiningsInItModel" "depth" "I") (List.mem_of_getElem? (i := 1) rfl)) (fun _ h9 => h9) rfl dX8_cases_47 ?_
              refine lv_aload_n hx hb dX8_cases_50 rfl (lv_at hl 0 rfl) ?_
              refine va_get (D := D) (ci := 8) (v := .int nse) (C := RX8) (T := TX8) (N := 38) hx hb hts hi_X8_cases_8 hown hK hP 0 rfl rfl 5 (by decide) (hts (.fieldLink RX8 13 "TheLiningsInItModel" "seconds" "I") (List.mem_of_getElem? (i := 2) rfl)) (fun _ h9 => h9) rfl dX8_cases_51 ?_
              refine lv_iload_n hx hb dX8_cases_54 rfl (lv_at hl 2 rfl) ?_
              refine lv_iconst (v := 2) hx hb dX8_cases_55 (by decide) ?_
              refine lv_icmp_ne (tgt := 63) hx hb dX8_cases_56 (by decide) (fun c_66 => ?_) (fun c_66 => ?_)
              · have fc_66 : w.toInt ≠ 2 := zf_ne c_66 rfl (by decide)
                refine lv_iconst (v := 0) hx hb dX8_cases_63 (by decide) ?_
                have kc0 : (0 : Int32).toInt = 0 := by decide
                refine zc_V (As := [.int 4, .int nde, .int nse, .int 0]) (rest := []) ⟨hx, hb, hml, hown, hts⟩ (c_F_M_mostCases_4 l D cI cJ cZ cP cS po m0 mrf mki mpa mta mla msl mco mhe mso msi msh mce mca mwo mnu mte mwa mke mma mth mtr (npu) (nte) (nat_) (nde) (nto) (nse) (nhu) (nga) (nsd) (nfa) (nba) (npl) (nen) (nnu) (nwr) (nra) (nik) gki gpa gta (nde) (nse) (0) hy0 hy1 hy2 hy3 hy4 hy5 hy6 hy7 hy8 hy9 hy10 hy11 hy12 hy13 hy6 hy7 hy14 hy15 (by omega) (by omega) hp_gki hp_gpa hp_gta) (cwV 4 hts gX8_cases_X8_mostCases rfl rfl rfl ⟨rfl, dh_X8_mostCases⟩ ⟨Nat.le_of_ble_eq_true rfl, Nat.le_of_ble_eq_true rfl⟩) hK hN (hZ.kept hS) hP (hP.sub [0, 2, 3, 4] rfl) (va_recv (q := (RX8, TX8, 38)) hK hP (ci := 8) (q0 := 0) rfl rfl) rfl hl.1 rfl (Nat.le_of_ble_eq_true rfl) dX8_cases_64 ⟨Nat.le_of_ble_eq_true rfl, Nat.le_of_ble_eq_true rfl⟩ (fun r_67 hr_67 => ?_)
                obtain ⟨g_68, g_69, hsr_67_0⟩ := hr_67
                exact W.iret (v := r_67) hx hb hr (fun t ht hW => ⟨⟨r_67, grf, rfl, ⟨(show ((w.toInt < 0 ∨ 2 < w.toInt) ∧ (r_67 : Int32).toInt = -15) ∨ ((0 ≤ w.toInt ∧ w.toInt ≤ 2) ∧ ((((4 : Int32).toInt < 0 ∨ 4 < (4 : Int32).toInt) ∧ (r_67 : Int32).toInt = -16) ∨ ((0 ≤ (4 : Int32).toInt ∧ (4 : Int32).toInt ≤ 4) ∧ ((w.toInt = 1 ∧ (r_67 : Int32).toInt = zNq gki gpa gta npu.toInt.toNat nhu.toInt (4 : Int32).toInt nde.toInt nse.toInt) ∨ (w.toInt ≠ 1 ∧ (r_67 : Int32).toInt = zM gki gpa gta npu.toInt.toNat nhu.toInt (if w.toInt = 2 then 0 else 1) (4 : Int32).toInt.toNat nde.toInt nse.toInt))))) from by (have k4 : (4 : Int32).toInt = 4 := (by decide); refine Or.inr ⟨by omega, Or.inr ⟨by omega, Or.inr ⟨by omega, (by have z := hsr_67_0; rw [show (4 : Int32).toInt.toNat = 4 from by decide]; first | (rw [if_pos (by omega)]; rw [show (if (1 : Int32).toInt = 0 then (1 : Int) else 0) = 0 from by decide] at z; exact z) | (rw [if_neg (by omega)]; rw [show (if (0 : Int32).toInt = 0 then (1 : Int) else 0) = 1 from by decide] at z; exact z))⟩⟩⟩)), trivial⟩, zRet ht hP hD [0, 1, 2, 3, 4] (by decide) rfl⟩, hS.F ht⟩) hS.2.2 dX8_cases_67
              · have fc_66 : w.toInt = 2 := zf_eq c_66 rfl (by decide)
                refine lv_iconst (v := 1) hx hb dX8_cases_59 (by decide) ?_
                refine lv_goto (tgt := 64) hx hb dX8_cases_60 (by decide) ?_
                have kc1 : (1 : Int32).toInt = 1 := by decide
                refine zc_V (As := [.int 4, .int nde, .int nse, .int 1]) (rest := []) ⟨hx, hb, hml, hown, hts⟩ (c_F_M_mostCases_4 l D cI cJ cZ cP cS po m0 mrf mki mpa mta mla msl mco mhe mso msi msh mce mca mwo mnu mte mwa mke mma mth mtr (npu) (nte) (nat_) (nde) (nto) (nse) (nhu) (nga) (nsd) (nfa) (nba) (npl) (nen) (nnu) (nwr) (nra) (nik) gki gpa gta (nde) (nse) (1) hy0 hy1 hy2 hy3 hy4 hy5 hy6 hy7 hy8 hy9 hy10 hy11 hy12 hy13 hy6 hy7 hy14 hy15 (by omega) (by omega) hp_gki hp_gpa hp_gta) (cwV 4 hts gX8_cases_X8_mostCases rfl rfl rfl ⟨rfl, dh_X8_mostCases⟩ ⟨Nat.le_of_ble_eq_true rfl, Nat.le_of_ble_eq_true rfl⟩) hK hN (hZ.kept hS) hP (hP.sub [0, 2, 3, 4] rfl) (va_recv (q := (RX8, TX8, 38)) hK hP (ci := 8) (q0 := 0) rfl rfl) rfl hl.1 rfl (Nat.le_of_ble_eq_true rfl) dX8_cases_64 ⟨Nat.le_of_ble_eq_true rfl, Nat.le_of_ble_eq_true rfl⟩ (fun r_70 hr_70 => ?_)
                obtain ⟨g_71, g_72, hsr_70_0⟩ := hr_70
                exact W.iret (v := r_70) hx hb hr (fun t ht hW => ⟨⟨r_70, grf, rfl, ⟨(show ((w.toInt < 0 ∨ 2 < w.toInt) ∧ (r_70 : Int32).toInt = -15) ∨ ((0 ≤ w.toInt ∧ w.toInt ≤ 2) ∧ ((((4 : Int32).toInt < 0 ∨ 4 < (4 : Int32).toInt) ∧ (r_70 : Int32).toInt = -16) ∨ ((0 ≤ (4 : Int32).toInt ∧ (4 : Int32).toInt ≤ 4) ∧ ((w.toInt = 1 ∧ (r_70 : Int32).toInt = zNq gki gpa gta npu.toInt.toNat nhu.toInt (4 : Int32).toInt nde.toInt nse.toInt) ∨ (w.toInt ≠ 1 ∧ (r_70 : Int32).toInt = zM gki gpa gta npu.toInt.toNat nhu.toInt (if w.toInt = 2 then 0 else 1) (4 : Int32).toInt.toNat nde.toInt nse.toInt))))) from by (have k4 : (4 : Int32).toInt = 4 := (by decide); refine Or.inr ⟨by omega, Or.inr ⟨by omega, Or.inr ⟨by omega, (by have z := hsr_70_0; rw [show (4 : Int32).toInt.toNat = 4 from by decide]; first | (rw [if_pos (by omega)]; rw [show (if (1 : Int32).toInt = 0 then (1 : Int) else 0) = 0 from by decide] at z; exact z) | (rw [if_neg (by omega)]; rw [show (if (0 : Int32).toInt = 0 then (1 : Int) else 0) = 1 from by decide] at z; exact z))⟩⟩⟩)), trivial⟩, zRet ht hP hD [0, 1, 2, 3, 4] (by decide) rfl⟩, hS.F ht⟩) hS.2.2 dX8_cases_67
            · have fc_65 : w.toInt = 1 := zf_eq c_65 rfl (by decide)
              refine lv_aload_n hx hb dX8_cases_36 rfl (lv_at hl 0 rfl) ?_
              refine lv_iload_n hx hb dX8_cases_37 rfl (lv_at hl 1 rfl) ?_
              refine zc_V (As := [.int 4]) (rest := []) ⟨hx, hb, hml, hown, hts⟩ (c_F_M_nextOf_4 l D cI cJ cZ cP cS po m0 mrf mki mpa mta mla msl mco mhe mso msi msh mce mca mwo mnu mte mwa mke mma mth mtr (npu) (nte) (nat_) (nde) (nto) (nse) (nhu) (nga) (nsd) (nfa) (nba) (npl) (nen) (nnu) (nwr) (nra) (nik) gki gpa gta hy0 hy1 hy2 hy3 hy4 hy5 hy6 hy7 hy8 hy9 hy10 hy11 hy12 hy13 hy14 hy15 hp_gki hp_gpa hp_gta) (cwV 1 hts gX8_cases_X8_nextOf rfl rfl rfl ⟨rfl, dh_X8_nextOf⟩ ⟨Nat.le_of_ble_eq_true rfl, Nat.le_of_ble_eq_true rfl⟩) hK hN (hZ.kept hS) hP (hP.sub [0, 2, 3, 4] rfl) (va_recv (q := (RX8, TX8, 38)) hK hP (ci := 8) (q0 := 0) rfl rfl) rfl hl.1 rfl (Nat.le_of_ble_eq_true rfl) dX8_cases_38 ⟨Nat.le_of_ble_eq_true rfl, Nat.le_of_ble_eq_true rfl⟩ (fun r_73 hr_73 => ?_)
              obtain ⟨g_74, g_75, hsr_73_0⟩ := hr_73
              refine lv_goto (tgt := 67) hx hb dX8_cases_41 (by decide) ?_
              exact W.iret (v := r_73) hx hb hr (fun t ht hW => ⟨⟨r_73, grf, rfl, ⟨(show ((w.toInt < 0 ∨ 2 < w.toInt) ∧ (r_73 : Int32).toInt = -15) ∨ ((0 ≤ w.toInt ∧ w.toInt ≤ 2) ∧ ((((4 : Int32).toInt < 0 ∨ 4 < (4 : Int32).toInt) ∧ (r_73 : Int32).toInt = -16) ∨ ((0 ≤ (4 : Int32).toInt ∧ (4 : Int32).toInt ≤ 4) ∧ ((w.toInt = 1 ∧ (r_73 : Int32).toInt = zNq gki gpa gta npu.toInt.toNat nhu.toInt (4 : Int32).toInt nde.toInt nse.toInt) ∨ (w.toInt ≠ 1 ∧ (r_73 : Int32).toInt = zM gki gpa gta npu.toInt.toNat nhu.toInt (if w.toInt = 2 then 0 else 1) (4 : Int32).toInt.toNat nde.toInt nse.toInt))))) from by (have k4 : (4 : Int32).toInt = 4 := (by decide); refine Or.inr ⟨by omega, Or.inr ⟨by omega, Or.inl ⟨by omega, (by rw [show (4 : Int32).toInt = 4 from by decide]; exact hsr_73_0)⟩⟩⟩)), trivial⟩, zRet ht hP hD [0, 1, 2, 3, 4] (by decide) rfl⟩, hS.F ht⟩) hS.2.2 dX8_cases_67
        · exact absurd c_20 (by decide)
    · have fc_5 : 2 < w.toInt := zf_nle c_5 rfl (by decide)
      refine lv_aload_n hx hb dX8_cases_9 rfl (lv_at hl 0 rfl) ?_
      refine lv_bipush (v := (-5)) hx hb dX8_cases_10 (by decide) ?_
      skip
      refine zw_V (As := [.int (-5)]) (rest := []) (wr := [(mki, .inl (cI, 8, .inl gki)), (mpa, .inl (cI, 8, .inl gpa)), (mta, .inl (cI, 8, .inl gta))]) ⟨hx, hb, hml, hown, hts⟩ (c_M_noTen_5 l D cI cJ cZ cP cS po m0 mrf mki mpa mta mla msl mco mhe mso msi msh mce mca mwo mnu mte mwa mke mma mth mtr (npu) (nte) (nat_) (nde) (nto) (nse) (nhu) (nga) (nsd) (nfa) (nba) (npl) (nen) (nnu) (nwr) (nra) (nik) grf hy0 hy1 hy2 hy3 hy4 hy5 hy6 hy7 hy8 hy9 hy10 hy11 hy12 hy13 H.size) (cwV 1 hts gX8_cases_X8_noTen rfl rfl rfl ⟨rfl, dh_X8_noTen⟩ ⟨Nat.le_of_ble_eq_true rfl, Nat.le_of_ble_eq_true rfl⟩) hK hN (hZ.kept hS) hP hD hS hA [0, 1] [2, 3, 4] rfl rfl (by decide) (by decide) (by decide) (va_recv (q := (RX8, TX8, 38)) hK hP (ci := 8) (q0 := 0) rfl rfl) rfl hl.1 rfl (Nat.le_of_ble_eq_true rfl) dX8_cases_12 ⟨Nat.le_of_ble_eq_true rfl, Nat.le_of_ble_eq_true rfl⟩ (fun r_76 u_77 H locs hr_76 hP hD hS => ?_)
      obtain ⟨q_78, rfl⟩ : ∃ z, z = u_77 := ⟨_, rfl⟩
      have h9R := zRe (ws' := [(mki, .inl (cI, 8, .inl gki)), (mpa, .inl (cI, 8, .inl gpa)), (mta, .inl (cI, 8, .inl gta)), (zMO m0 npu nte nat_ nde nto nse nhu nga nsd nfa mrf mki mpa mta mla msl mco mhe mso msi msh mce mca mwo mnu mte nba npl nen nnu nwr mwa mke mma mth mtr nra nik), (mrf, .inl (cI, 8, .inl q_78))]) hP hD rfl
      clear hP hD
      obtain ⟨hP, hD⟩ := h9R
      obtain rfl := hr_76
      exact W.iret (v := (-15)) hx hb hr (fun t ht hW => ⟨⟨(-15), q_78, rfl, ⟨(show ((w.toInt < 0 ∨ 2 < w.toInt) ∧ ((-15) : Int32).toInt = -15) ∨ ((0 ≤ w.toInt ∧ w.toInt ≤ 2) ∧ (((n.toInt < 0 ∨ 4 < n.toInt) ∧ ((-15) : Int32).toInt = -16) ∨ ((0 ≤ n.toInt ∧ n.toInt ≤ 4) ∧ ((w.toInt = 1 ∧ ((-15) : Int32).toInt = zNq gki gpa gta npu.toInt.toNat nhu.toInt n.toInt nde.toInt nse.toInt) ∨ (w.toInt ≠ 1 ∧ ((-15) : Int32).toInt = zM gki gpa gta npu.toInt.toNat nhu.toInt (if w.toInt = 2 then 0 else 1) n.toInt.toNat nde.toInt nse.toInt))))) from by (have k15m : ((-15) : Int32).toInt = -15 := (by decide); omega)), trivial⟩, zRet ht hP hD [3, 4, 0, 1, 2] (by decide) rfl⟩, hS.F ht⟩) hS.2.2 dX8_cases_15
end
