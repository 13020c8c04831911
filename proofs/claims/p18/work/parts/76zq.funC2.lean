set_option maxHeartbeats 4000000 in
set_option maxRecDepth 100000 in
theorem c_F_Zip_runsTo (l : Launch) (D : va_G) (cI cJ cZ cP cS : ClassId) (po : zPool) (z0 zl zs : Nat) (sz at_ gp : Int32) (fl fs : Nat → Int32)  (hy0 : 4 ≤ sz.toInt) (hy1 : sz.toInt ≤ 40) (hy2 : 0 ≤ at_.toInt) (hy3 : at_.toInt ≤ 40) (hy4 : 1 ≤ gp.toInt) (hy5 : gp.toInt ≤ 9) (hy6 : at_.toInt ≤ sz.toInt) (hp_fl : zRg fl (0) 1) (hp_fs : zRg fs (0) 9) : Met l yX6_runsTo wsX6_runsTo ({ frames := 3, cells := 0, slots := 0, locals := 63 }) (va_Pc [.ref z0] (zR D (zKT cI cJ cZ cP cS) po [(z0, .inr (6, [.ref zl, .ref zs, .int sz, .int at_, .int gp])), (zl, .inl (cZ, 40, .inl fl)), (zs, .inl (cI, 40, .inl fs))])) (vp_Si (fun r => 0 ≤ r.toInt ∧ r.toInt ≤ 40 ∧ (r.toInt = zRu fl fs gp.toInt sz.toInt (sz.toInt - at_.toInt).toNat at_.toInt))) 0 0 (fun _ => False) := by
  refine Met.ofW (cc := cX6_runsTo) (maxL := 2) (ret := (some .int)) (by decide) rfl ?_
  intro p e s m args below meth c s₁ B hml hv
  obtain ⟨rfl, hP, hK, hN, hZ⟩ := hv
  have hx := B.exec
  have hb := B.bytes
  have hr := B.returns
  have hts := atoms_spec (ws := wsX6_runsTo) B.pre
  have hown : s.vm.findClass RX6 = some m.cls := findClass_of_methodNamed B.named
  have hlocks := B.notSynchronized
  have hl := lv_entry ([.ref z0]) (n := 2) (Nat.le_of_ble_eq_true rfl)
  rw [lg_entry_eq]
  generalize (lg_sl ([.ref z0]) ++ List.replicate (2 - (lg_sl ([.ref z0])).length) Slot.unset).toArray = ls at hl ⊢
  replace hl : lv_has ls 2 [(0, .ref z0)] := hl
  refine lv_aload_n hx hb dX6_runsTo_0 rfl (lv_at hl 0 rfl) ?_
  refine va_get (D := D) (ci := 6) (v := .int at_) (C := RX6) (T := TX6) (N := 5) hx hb hts hi_X6_runsTo_6 hown hK hP 0 rfl rfl 3 (by decide) (hts (.fieldLink RX6 23 "TheLiningsInIt$Zip" "at" "I") (List.mem_of_getElem? (i := 1) rfl)) (fun _ h9 => h9) rfl dX6_runsTo_1 ?_
  refine lv_istore_n (lv' := [(1, .int at_), (0, .ref z0)]) hx hb dX6_runsTo_4 rfl hl (by decide) rfl (fun ls hl => ?_)
  obtain ⟨i_5, hi_5⟩ : ∃ i : Int32, i = at_ := ⟨_, rfl⟩
  replace hl : lv_has ls 2 [(1, .int i_5), (0, .ref z0)] := by rw [hi_5]; exact lv_sub hl [0, 1] rfl
  have h1i_5 : i_5.toInt = at_.toInt := by rw [hi_5]
  obtain ⟨nfu, hni_5⟩ : ∃ nq9 : Nat, sz.toInt ≤ i_5.toInt + (nq9 : Int) := ⟨((sz.toInt : Int) - at_.toInt).toNat, by omega⟩
  have hloi_5 : 0 ≤ i_5.toInt := by omega
  have hvi_5_0 : zRu fl fs gp.toInt sz.toInt (sz.toInt - at_.toInt).toNat at_.toInt = zRu fl fs gp.toInt sz.toInt (sz.toInt - i_5.toInt).toNat i_5.toInt := by
    (try rw [hi_5]); first | done | rfl
  have hvi_5_1 : at_.toInt ≤ i_5.toInt ∧ i_5.toInt ≤ sz.toInt := by
    (try rw [hi_5]); exact ⟨by omega, by omega⟩
  clear h1i_5 hi_5
  revert hni_5
  revert hloi_5
  revert hvi_5_1
  revert hvi_5_0
  revert hl
  revert ls
  revert i_5
  induction nfu with
  | zero =>
    intro i_5 ls hl hvi_5_0 hvi_5_1 hloi_5 hni_5
    have hzi_5 : sz.toInt ≤ i_5.toInt := by omega
    refine lv_iload_n hx hb dX6_runsTo_5 rfl (lv_at hl 0 rfl) ?_
    refine lv_aload_n hx hb dX6_runsTo_6 rfl (lv_at hl 1 rfl) ?_
    refine va_get (D := D) (ci := 6) (v := .int sz) (C := RX6) (T := TX6) (N := 5) hx hb hts hi_X6_runsTo_6 hown hK hP 0 rfl rfl 2 (by decide) (hts (.fieldLink RX6 19 "TheLiningsInIt$Zip" "size" "I") (List.mem_of_getElem? (i := 2) rfl)) (fun _ h9 => h9) rfl dX6_runsTo_7 ?_
    refine lv_icmp_ge (tgt := 37) hx hb dX6_runsTo_10 (by decide) (fun c_1 => ?_) (fun c_1 => ?_)
    · have fc_1 : sz.toInt ≤ i_5.toInt := zf_le c_1 rfl rfl
      refine lv_aload_n hx hb dX6_runsTo_37 rfl (lv_at hl 1 rfl) ?_
      refine va_get (D := D) (ci := 6) (v := .int sz) (C := RX6) (T := TX6) (N := 5) hx hb hts hi_X6_runsTo_6 hown hK hP 0 rfl rfl 2 (by decide) (hts (.fieldLink RX6 19 "TheLiningsInIt$Zip" "size" "I") (List.mem_of_getElem? (i := 2) rfl)) (fun _ h9 => h9) rfl dX6_runsTo_38 ?_
      exact W.iret (v := sz) hx hb hr (fun t ht hW => ⟨sz, rfl, ⟨by omega, by omega, (show (sz : Int32).toInt = zRu fl fs gp.toInt sz.toInt (sz.toInt - at_.toInt).toNat at_.toInt from by (rw [hvi_5_0, show (sz.toInt - i_5.toInt).toNat = 0 from by omega]; show sz.toInt = i_5.toInt; omega))⟩, ht⟩) (fun q hq => by cases hq) dX6_runsTo_41
    · exfalso; have fc_1 : i_5.toInt < sz.toInt := zf_nle c_1 rfl rfl; omega
  | succ nfu ih =>
    intro i_5 ls hl hvi_5_0 hvi_5_1 hloi_5 hni_5
    refine lv_iload_n hx hb dX6_runsTo_5 rfl (lv_at hl 0 rfl) ?_
    refine lv_aload_n hx hb dX6_runsTo_6 rfl (lv_at hl 1 rfl) ?_
    refine va_get (D := D) (ci := 6) (v := .int sz) (C := RX6) (T := TX6) (N := 5) hx hb hts hi_X6_runsTo_6 hown hK hP 0 rfl rfl 2 (by decide) (hts (.fieldLink RX6 19 "TheLiningsInIt$Zip" "size" "I") (List.mem_of_getElem? (i := 2) rfl)) (fun _ h9 => h9) rfl dX6_runsTo_7 ?_
    refine lv_icmp_ge (tgt := 37) hx hb dX6_runsTo_10 (by decide) (fun c_2 => ?_) (fun c_2 => ?_)
    · have fc_2 : sz.toInt ≤ i_5.toInt := zf_le c_2 rfl rfl
      refine lv_aload_n hx hb dX6_runsTo_37 rfl (lv_at hl 1 rfl) ?_
      refine va_get (D := D) (ci := 6) (v := .int sz) (C := RX6) (T := TX6) (N := 5) hx hb hts hi_X6_runsTo_6 hown hK hP 0 rfl rfl 2 (by decide) (hts (.fieldLink RX6 19 "TheLiningsInIt$Zip" "size" "I") (List.mem_of_getElem? (i := 2) rfl)) (fun _ h9 => h9) rfl dX6_runsTo_38 ?_
      exact W.iret (v := sz) hx hb hr (fun t ht hW => ⟨sz, rfl, ⟨by omega, by omega, (show (sz : Int32).toInt = zRu fl fs gp.toInt sz.toInt (sz.toInt - at_.toInt).toNat at_.toInt from by (rw [hvi_5_0, show (sz.toInt - i_5.toInt).toNat = 0 from by omega]; show sz.toInt = i_5.toInt; omega))⟩, ht⟩) (fun q hq => by cases hq) dX6_runsTo_41
    · have fc_2 : i_5.toInt < sz.toInt := zf_nle c_2 rfl rfl
      refine lv_aload_n hx hb dX6_runsTo_13 rfl (lv_at hl 1 rfl) ?_
      refine lv_iload_n hx hb dX6_runsTo_14 rfl (lv_at hl 0 rfl) ?_
      refine zc_V (As := [.int i_5]) (rest := []) ⟨hx, hb, hml, hown, hts⟩ (c_F_Zip_catchesAt l D cI cJ cZ cP cS po z0 zl zs (sz) (at_) (gp) fl fs (i_5) hy0 hy1 hy2 hy3 hy4 hy5 hp_fl hp_fs) (cwV 1 hts gX6_runsTo_X6_catchesAt rfl rfl rfl ⟨rfl, dh_X6_catchesAt⟩ ⟨Nat.le_of_ble_eq_true rfl, Nat.le_of_ble_eq_true rfl⟩) hK hN hZ hP (hP.sub [0, 1, 2] rfl) (va_recv (q := (RX6, TX6, 5)) hK hP (ci := 6) (q0 := 0) rfl rfl) rfl hl.1 rfl (Nat.le_of_ble_eq_true rfl) dX6_runsTo_15 ⟨Nat.le_of_ble_eq_true rfl, Nat.le_of_ble_eq_true rfl⟩ (fun r_3 hr_3 => ?_)
      obtain ⟨g_4, g_5, hsr_3_0⟩ := hr_3
      replace hsr_3_0 := zHid_i hsr_3_0
      refine lv_if_ne (tgt := 29) hx hb dX6_runsTo_18 (by decide) (fun c_6 => ?_) (fun c_6 => ?_)
      · have fc_6 : r_3.toInt ≠ 0 := zf_ne c_6 rfl (by decide)
        refine lv_iload_n hx hb dX6_runsTo_29 rfl (lv_at hl 0 rfl) ?_
        exact W.iret (v := i_5) hx hb hr (fun t ht hW => ⟨i_5, rfl, ⟨by omega, by omega, (show (i_5 : Int32).toInt = zRu fl fs gp.toInt sz.toInt (sz.toInt - at_.toInt).toNat at_.toInt from by (rw [hvi_5_0, show (sz.toInt - i_5.toInt).toNat = (sz.toInt - (i_5.toInt + 1)).toNat + 1 from by omega, zRu_s, if_pos (by first | exact Or.inr (Or.inl (hsr_3_0.1 (by omega)).2.2))]))⟩, ht⟩) (fun q hq => by cases hq) dX6_runsTo_30
      · have fc_6 : r_3.toInt = 0 := zf_eq c_6 rfl (by decide)
        refine lv_aload_n hx hb dX6_runsTo_21 rfl (lv_at hl 1 rfl) ?_
        refine lv_iload_n hx hb dX6_runsTo_22 rfl (lv_at hl 0 rfl) ?_
        refine zc_V (As := [.int i_5]) (rest := []) ⟨hx, hb, hml, hown, hts⟩ (c_F_Zip_lacks3 l D cI cJ cZ cP cS po z0 zl zs (sz) (at_) (gp) fl ((fun _ => 0)) (i_5) hy0 hy1 hy2 hy3 hy4 hy5 (by omega) (by omega) hp_fl) (cwV 1 hts gX6_runsTo_X6_lacksThreeFrom rfl rfl rfl ⟨rfl, dh_X6_lacksThreeFrom⟩ ⟨Nat.le_of_ble_eq_true rfl, Nat.le_of_ble_eq_true rfl⟩) hK hN hZ hP (hP.sub [0, 1] rfl) (va_recv (q := (RX6, TX6, 5)) hK hP (ci := 6) (q0 := 0) rfl rfl) rfl hl.1 rfl (Nat.le_of_ble_eq_true rfl) dX6_runsTo_23 ⟨Nat.le_of_ble_eq_true rfl, Nat.le_of_ble_eq_true rfl⟩ (fun r_7 hr_7 => ?_)
        obtain ⟨g_8, g_9, hsr_7_0⟩ := hr_7
        replace hsr_7_0 := zHid_i hsr_7_0
        refine lv_if_eq (tgt := 31) hx hb dX6_runsTo_26 (by decide) (fun c_10 => ?_) (fun c_10 => ?_)
        · have fc_10 : r_7.toInt = 0 := zf_eq c_10 rfl (by decide)
          obtain ⟨x_11, ex_11⟩ : ∃ y : Int32, y = i_5 + 1 := ⟨_, rfl⟩
          have qx_11 : x_11.toInt = i_5.toInt + 1 := dw_inc ex_11 fc_2
          refine lv_iinc (v := x_11) (lv' := [(1, .int x_11), (0, .ref z0)]) hx hb dX6_runsTo_31 hl (k := 0) rfl ex_11.symm (by decide) rfl (fun ls hl => ?_)
          refine lv_goto (tgt := 5) hx hb dX6_runsTo_34 (by decide) ?_
          exact ih x_11 _ (lv_sub hl [0, 1] rfl) (show zRu fl fs gp.toInt sz.toInt (sz.toInt - at_.toInt).toNat at_.toInt = zRu fl fs gp.toInt sz.toInt (sz.toInt - x_11.toInt).toNat x_11.toInt from by (rw [hvi_5_0, show (sz.toInt - i_5.toInt).toNat = (sz.toInt - x_11.toInt).toNat + 1 from by omega, zRu_s, if_neg (fun z => by (rcases z with z | z | z; (omega); (exact hsr_3_0.2 (by omega) ⟨by omega, by omega, z⟩); (exact hsr_7_0.2 (by omega) z))), show x_11.toInt = i_5.toInt + 1 from by omega])) (show at_.toInt ≤ x_11.toInt ∧ x_11.toInt ≤ sz.toInt from by exact ⟨by omega, by omega⟩) (dw_lo hloi_5 qx_11) (dw_hn hni_5 qx_11)
        · have fc_10 : r_7.toInt ≠ 0 := zf_ne c_10 rfl (by decide)
          refine lv_iload_n hx hb dX6_runsTo_29 rfl (lv_at hl 0 rfl) ?_
          exact W.iret (v := i_5) hx hb hr (fun t ht hW => ⟨i_5, rfl, ⟨by omega, by omega, (show (i_5 : Int32).toInt = zRu fl fs gp.toInt sz.toInt (sz.toInt - at_.toInt).toNat at_.toInt from by (rw [hvi_5_0, show (sz.toInt - i_5.toInt).toNat = (sz.toInt - (i_5.toInt + 1)).toNat + 1 from by omega, zRu_s, if_pos (by first | exact Or.inr (Or.inl (hsr_3_0.1 (by omega)).2.2) | exact Or.inr (Or.inr (hsr_7_0.1 (by omega))))]))⟩, ht⟩) (fun q hq => by cases hq) dX6_runsTo_30
set_option maxHeartbeats 4000000 in
set_option maxRecDepth 100000 in
theorem c_F_X_closed (l : Launch) (D : va_G) (cI cJ cZ cP cS : ClassId) (po : zPool) (x0 xs j0 k0 w0 rd mv xr : Nat) (im lf : Int32) (fr : Nat → Int32) (j0 jp jc z0 zl zs : Nat) (cn de tr se hu sd : Int32) (sz at_ gp : Int32) (fl fs : Nat → Int32) (hy0 : 0 ≤ im.toInt) (hy1 : im.toInt ≤ 1) (hy2 : (-1) ≤ lf.toInt) (hy3 : lf.toInt ≤ 160) (hy4 : 0 ≤ cn.toInt) (hy5 : cn.toInt ≤ 8) (hy6 : 0 ≤ de.toInt) (hy7 : de.toInt ≤ 24) (hy8 : 0 ≤ hu.toInt) (hy9 : hu.toInt ≤ 9) (hy10 : 4 ≤ sz.toInt) (hy11 : sz.toInt ≤ 40) (hy12 : 0 ≤ at_.toInt) (hy13 : at_.toInt ≤ 40) (hy14 : 1 ≤ gp.toInt) (hy15 : gp.toInt ≤ 9) (hy16 : at_.toInt ≤ sz.toInt) (hp_fl : zRg fl (0) 1) (hp_fs : zRg fs (0) 9) : Met l yX7_closed wsX7_closed ({ frames := 4, cells := 0, slots := 0, locals := 84 }) (va_Pc [.ref x0] (zR D (zKT cI cJ cZ cP cS) po [(x0, .inr (7, [.ref xs, .ref j0, .ref k0, .ref w0, .ref rd, .ref mv, .ref xr, .int im, .int lf])), (j0, .inr (0, [.ref z0, .ref jp, .ref jc, .int cn, .int de, .int tr, .int se, .int hu, .int sd])), (z0, .inr (6, [.ref zl, .ref zs, .int sz, .int at_, .int gp])), (zl, .inl (cZ, 40, .inl fl)), (zs, .inl (cI, 40, .inl fs))])) (vp_Si (fun r => (r.toInt = zRu fl fs gp.toInt sz.toInt (sz.toInt - at_.toInt).toNat at_.toInt))) 0 0 (fun _ => False) := by
  refine Met.ofW (cc := cX7_closed) (maxL := 1) (ret := (some .int)) (by decide) rfl ?_
  intro p e s m args below meth c s₁ B hml hv
  obtain ⟨rfl, hP, hK, hN, hZ⟩ := hv
  have hx := B.exec
  have hb := B.bytes
  have hr := B.returns
  have hts := atoms_spec (ws := wsX7_closed) B.pre
  have hown : s.vm.findClass RX7 = some m.cls := findClass_of_methodNamed B.named
  have hlocks := B.notSynchronized
  have hl := lv_entry ([.ref x0]) (n := 1) (Nat.le_of_ble_eq_true rfl)
  rw [lg_entry_eq]
  generalize (lg_sl ([.ref x0]) ++ List.replicate (1 - (lg_sl ([.ref x0])).length) Slot.unset).toArray = ls at hl ⊢
  replace hl : lv_has ls 1 [(0, .ref x0)] := hl
  refine lv_aload_n hx hb dX7_closed_0 rfl (lv_at hl 0 rfl) ?_
  refine va_get (D := D) (ci := 7) (v := .ref j0) (C := RX7) (T := TX7) (N := 9) hx hb hts hi_X7_closed_7 hown hK hP 0 rfl rfl 1 (by decide) (hts (.fieldLink RX7 18 "TheLiningsInIt" "now" "LTheLiningsInIt$Jacket;") (List.mem_of_getElem? (i := 1) rfl)) (fun _ h9 => h9) rfl dX7_closed_1 ?_
  refine va_get (D := D) (ci := 0) (v := .ref z0) (C := RX0) (T := TX0) (N := 9) hx hb hts hi_X7_closed_0 hown hK hP 1 rfl rfl 0 (by decide) (hts (.fieldLink RX7 140 "TheLiningsInIt$Jacket" "zip" "LTheLiningsInIt$Zip;") (List.mem_of_getElem? (i := 2) rfl)) (fun _ h9 => h9) rfl dX7_closed_4 ?_
  refine zc_V (As := []) (rest := []) ⟨hx, hb, hml, hown, hts⟩ (c_F_Zip_runsTo l D cI cJ cZ cP cS po z0 zl zs (sz) (at_) (gp) fl fs hy10 hy11 hy12 hy13 hy14 hy15 (by omega) hp_fl hp_fs) (cwV 0 hts gX7_closed_X6_runsTo rfl rfl rfl ⟨rfl, dh_X6_runsTo⟩ ⟨Nat.le_of_ble_eq_true rfl, Nat.le_of_ble_eq_true rfl⟩) hK hN hZ hP (hP.sub [2, 3, 4] rfl) (va_recv (q := (RX6, TX6, 5)) hK hP (ci := 6) (q0 := 2) rfl rfl) rfl hl.1 rfl (Nat.le_of_ble_eq_true rfl) dX7_closed_7 ⟨Nat.le_of_ble_eq_true rfl, Nat.le_of_ble_eq_true rfl⟩ (fun r_1 hr_1 => ?_)
  obtain ⟨g_2, g_3, hsr_1_0⟩ := hr_1
  exact W.iret (v := r_1) hx hb hr (fun t ht hW => ⟨r_1, rfl, (show (r_1 : Int32).toInt = zRu fl fs gp.toInt sz.toInt (sz.toInt - at_.toInt).toNat at_.toInt from by exact hsr_1_0), ht⟩) (fun q hq => by cases hq) dX7_closed_10
set_option maxHeartbeats 4000000 in
set_option maxRecDepth 100000 in
theorem c_F_X_pulls (l : Launch) (D : va_G) (cI cJ cZ cP cS : ClassId) (po : zPool) (x0 xs j0 k0 w0 rd mv xr : Nat) (im lf : Int32) (fr : Nat → Int32) (j0 jp jc z0 zl zs : Nat) (cn de tr se hu sd : Int32) (fp : Nat → Option Nat) (kf af tf : Nat → Int32) (p_ : Int32) (hy0 : 0 ≤ im.toInt) (hy1 : im.toInt ≤ 1) (hy2 : (-1) ≤ lf.toInt) (hy3 : lf.toInt ≤ 160) (hy4 : 0 ≤ cn.toInt) (hy5 : cn.toInt ≤ 8) (hy6 : 0 ≤ de.toInt) (hy7 : de.toInt ≤ 24) (hy8 : 0 ≤ hu.toInt) (hy9 : hu.toInt ≤ 9) (hjp : zJP po fp cn kf af tf) (hy11 : 0 ≤ se.toInt) (hy12 : se.toInt ≤ 300) (hpz : Nat) : Met l yX7_pulls wsX7_pulls ({ frames := 3, cells := 0, slots := 0, locals := 66 }) (va_Pc [.ref x0, .int p_] (zW D (zKT cI cJ cZ cP cS) po [(x0, .inr (7, [.ref xs, .ref j0, .ref k0, .ref w0, .ref rd, .ref mv, .ref xr, .int im, .int lf])), (xr, .inl (cI, 8, .inl fr)), (j0, .inr (0, [.ref z0, .ref jp, .ref jc, .int cn, .int de, .int tr, .int se, .int hu, .int sd])), (jp, .inl (cP, 8, .inr (.inr (.inr (.inr fp)))))] hpz)) (va_Qi (fun (r : Int32) (u : (Int32) × (Int32) × (Int32) × (Int32) × (Nat → Int32)) => (0 ≤ u.1.toInt ∧ u.1.toInt ≤ 24) ∧ (((p_.toInt < 0 ∨ cn.toInt ≤ p_.toInt) ∧ r.toInt = -1 ∧ u.1 = de ∧ u.2.2.1 = se ∧ u.2.1 = tr ∧ u.2.2.2.1 = sd) ∨ ((0 ≤ p_.toInt ∧ p_.toInt < cn.toInt) ∧ ((¬ (1 ≤ de.toInt ∧ (tf p_.toNatClampNeg).toInt ≤ se.toInt) ∧ r.toInt = -6 ∧ u.1 = de ∧ u.2.2.1 = se ∧ u.2.1 = tr ∧ u.2.2.2.1 = sd) ∨ ((1 ≤ de.toInt ∧ (tf p_.toNatClampNeg).toInt ≤ se.toInt) ∧ zP1 (kf p_.toNatClampNeg).toInt (af p_.toNatClampNeg).toInt (tf p_.toNatClampNeg).toInt hu.toInt (de.toInt, se.toInt, tr, sd) = (u.1.toInt, u.2.2.1.toInt, u.2.1, u.2.2.2.1) ∧ r.toInt = u.1.toInt)))) ∧ (True)) (zB D [(x0, .inr (7, [.ref xs, .ref j0, .ref k0, .ref w0, .ref rd, .ref mv, .ref xr, .int im, .int lf])), (xr, .inl (cI, 8, .inl fr)), (j0, .inr (0, [.ref z0, .ref jp, .ref jc, .int cn, .int de, .int tr, .int se, .int hu, .int sd])), (jp, .inl (cP, 8, .inr (.inr (.inr (.inr fp)))))] hpz (fun (u : (Int32) × (Int32) × (Int32) × (Int32) × (Nat → Int32)) => [(x0, .inr (7, [.ref xs, .ref j0, .ref k0, .ref w0, .ref rd, .ref mv, .ref xr, .int im, .int lf])), (xr, .inl (cI, 8, .inl u.2.2.2.2)), (j0, .inr (0, [.ref z0, .ref jp, .ref jc, .int cn, .int u.1, .int u.2.1, .int u.2.2.1, .int hu, .int u.2.2.2.1])), (jp, .inl (cP, 8, .inr (.inr (.inr (.inr fp)))))])) (va_A [(x0, .inr (7, [.ref xs, .ref j0, .ref k0, .ref w0, .ref rd, .ref mv, .ref xr, .int im, .int lf])), (xr, .inl (cI, 8, .inl fr)), (j0, .inr (0, [.ref z0, .ref jp, .ref jc, .int cn, .int de, .int tr, .int se, .int hu, .int sd])), (jp, .inl (cP, 8, .inr (.inr (.inr (.inr fp)))))] hpz)) 0 0 (va_A [(x0, .inr (7, [.ref xs, .ref j0, .ref k0, .ref w0, .ref rd, .ref mv, .ref xr, .int im, .int lf])), (xr, .inl (cI, 8, .inl fr)), (j0, .inr (0, [.ref z0, .ref jp, .ref jc, .int cn, .int de, .int tr, .int se, .int hu, .int sd])), (jp, .inl (cP, 8, .inr (.inr (.inr (.inr fp)))))] hpz) := by
  refine Met.ofW (cc := cX7_pulls) (maxL := 3) (ret := (some .int)) (by decide) rfl ?_
  intro p e s m args below meth c s₁ B hml hv
  obtain ⟨rfl, hsz, hP, hK, hD0, hN, hZ⟩ := hv
  have hx := B.exec
  have hb := B.bytes
  have hr := B.returns
  have hts := atoms_spec (ws := wsX7_pulls) B.pre
  have hown : s.vm.findClass RX7 = some m.cls := findClass_of_methodNamed B.named
  have hlocks := B.notSynchronized
  subst hsz
  have hD := hD0.self (sz := s.heap.size)
  have hA := zA_of hD
  have hl := lv_entry ([.ref x0, .int p_]) (n := 3) (Nat.le_of_ble_eq_true rfl)
  rw [lg_entry_eq]
  generalize (lg_sl ([.ref x0, .int p_]) ++ List.replicate (3 - (lg_sl ([.ref x0, .int p_])).length) Slot.unset).toArray = ls at hl ⊢
  replace hl : lv_has ls 3 [(0, .ref x0), (1, .int p_)] := hl
  refine zw_begin hP hD (fun H locs hP1 hS => ?_)
  clear hP
  have hP := hP1
  clear hP1
  refine lv_aload_n hx hb dX7_pulls_0 rfl (lv_at hl 0 rfl) ?_
  refine va_get (D := D) (ci := 7) (v := .ref j0) (C := RX7) (T := TX7) (N := 9) hx hb hts hi_X7_pulls_7 hown hK hP 0 rfl rfl 1 (by decide) (hts (.fieldLink RX7 18 "TheLiningsInIt" "now" "LTheLiningsInIt$Jacket;") (List.mem_of_getElem? (i := 1) rfl)) (fun _ h9 => h9) rfl dX7_pulls_1 ?_
  refine lv_iload_n hx hb dX7_pulls_4 rfl (lv_at hl 1 rfl) ?_
  refine zc_Vq (As := [.int p_]) (rest := []) ⟨hx, hb, hml, hown, hts⟩ (c_F_J_pullAt l D cI cJ cZ cP cS po j0 jp jc z0 0 0 (cn) (de) (tr) (se) (hu) (sd) fp kf af tf (p_) hy4 hy5 hy6 hy7 hy8 hy9 hjp) (cwV 1 hts gX7_pulls_X0_pullAt rfl rfl rfl ⟨rfl, dh_X0_pullAt⟩ ⟨Nat.le_of_ble_eq_true rfl, Nat.le_of_ble_eq_true rfl⟩) hK hN (hZ.kept hS) hP (hP.sub [2, 3] rfl) (va_recv (q := (RX0, TX0, 9)) hK hP (ci := 0) (q0 := 2) rfl rfl) rfl hl.1 rfl (Nat.le_of_ble_eq_true rfl) dX7_pulls_5 ⟨Nat.le_of_ble_eq_true rfl, Nat.le_of_ble_eq_true rfl⟩ (fun r_1 hr_1 => ?_)
  rcases hr_1 with ⟨rfl, g_2⟩ | ⟨rfl, g_3, g_4⟩ | ⟨⟨u_6, kiu_6, au_6, tu_6, rfl, huu_6, hkku_6⟩, g_5⟩
  · refine lv_astore_nN (lv' := [(2, .null), (0, .ref x0), (1, .int p_)]) hx hb dX7_pulls_8 rfl hl (by decide) rfl (fun ls hl => ?_)
    refine lv_aload_nN hx hb dX7_pulls_9 rfl (lv_at hl 0 rfl) ?_
    refine lv_ifnonnullN hx hb dX7_pulls_10 ?_
    refine lv_aload_n hx hb dX7_pulls_13 rfl (lv_at hl 1 rfl) ?_
    refine lv_iconst (v := 1) hx hb dX7_pulls_14 (by decide) ?_
    skip
    refine zw_V (As := [.int 1]) (rest := []) (wr := [(j0, .inr (0, [.ref z0, .ref jp, .ref jc, .int cn, .int de, .int tr, .int se, .int hu, .int sd])), (jp, .inl (cP, 8, .inr (.inr (.inr (.inr fp)))))]) ⟨hx, hb, hml, hown, hts⟩ (c_X_refuse_1 l D cI cJ cZ cP cS po x0 xs j0 k0 w0 rd mv xr (im) (lf) fr hy0 hy1 hy2 hy3 H.size) (cwV 1 hts gX7_pulls_X7_refuse rfl rfl rfl ⟨rfl, dh_X7_refuse⟩ ⟨Nat.le_of_ble_eq_true rfl, Nat.le_of_ble_eq_true rfl⟩) hK hN (hZ.kept hS) hP hD hS hA [0, 1] [2, 3] rfl rfl (by decide) (by decide) (by decide) (va_recv (q := (RX7, TX7, 9)) hK hP (ci := 7) (q0 := 0) rfl rfl) rfl hl.1 rfl (Nat.le_of_ble_eq_true rfl) dX7_pulls_15 ⟨Nat.le_of_ble_eq_true rfl, Nat.le_of_ble_eq_true rfl⟩ (fun r_7 u_8 H locs hr_7 hP hD hS => ?_)
    obtain ⟨q_9, rfl⟩ : ∃ z, z = u_8 := ⟨_, rfl⟩
    have h9R := zRe (ws' := [(j0, .inr (0, [.ref z0, .ref jp, .ref jc, .int cn, .int de, .int tr, .int se, .int hu, .int sd])), (jp, .inl (cP, 8, .inr (.inr (.inr (.inr fp))))), (x0, .inr (7, [.ref xs, .ref j0, .ref k0, .ref w0, .ref rd, .ref mv, .ref xr, .int im, .int lf])), (xr, .inl (cI, 8, .inl q_9))]) hP hD rfl
    clear hP hD
    obtain ⟨hP, hD⟩ := h9R
    obtain rfl := hr_7
    exact W.iret (v := (-1)) hx hb hr (fun t ht hW => ⟨⟨(-1), (de, tr, se, sd, q_9), rfl, ⟨(show 0 ≤ de.toInt ∧ de.toInt ≤ 24 from ⟨hy6, hy7⟩), (show ((p_.toInt < 0 ∨ cn.toInt ≤ p_.toInt) ∧ ((-1) : Int32).toInt = -1 ∧ de = de ∧ se = se ∧ tr = tr ∧ sd = sd) ∨ ((0 ≤ p_.toInt ∧ p_.toInt < cn.toInt) ∧ ((¬ (1 ≤ de.toInt ∧ (tf p_.toNatClampNeg).toInt ≤ se.toInt) ∧ ((-1) : Int32).toInt = -6 ∧ de = de ∧ se = se ∧ tr = tr ∧ sd = sd) ∨ ((1 ≤ de.toInt ∧ (tf p_.toNatClampNeg).toInt ≤ se.toInt) ∧ zP1 (kf p_.toNatClampNeg).toInt (af p_.toNatClampNeg).toInt (tf p_.toNatClampNeg).toInt hu.toInt (de.toInt, se.toInt, tr, sd) = (de.toInt, se.toInt, tr, sd) ∧ ((-1) : Int32).toInt = de.toInt))) from by (have k9 : ((-1) : Int32).toInt = -1 := (by decide); exact Or.inl ⟨by omega, by omega, rfl, rfl, rfl, rfl⟩)), trivial⟩, zRet ht hP hD [2, 3, 0, 1] (by decide) rfl⟩, hS.F ht⟩) hS.2.2 dX7_pulls_18
  · refine lv_astore_nN (lv' := [(2, .null), (0, .ref x0), (1, .int p_)]) hx hb dX7_pulls_8 rfl hl (by decide) rfl (fun ls hl => ?_)
    refine lv_aload_nN hx hb dX7_pulls_9 rfl (lv_at hl 0 rfl) ?_
    refine lv_ifnonnullN hx hb dX7_pulls_10 ?_
    refine lv_aload_n hx hb dX7_pulls_13 rfl (lv_at hl 1 rfl) ?_
    refine lv_iconst (v := 1) hx hb dX7_pulls_14 (by decide) ?_
    skip
    refine zw_V (As := [.int 1]) (rest := []) (wr := [(j0, .inr (0, [.ref z0, .ref jp, .ref jc, .int cn, .int de, .int tr, .int se, .int hu, .int sd])), (jp, .inl (cP, 8, .inr (.inr (.inr (.inr fp)))))]) ⟨hx, hb, hml, hown, hts⟩ (c_X_refuse_1 l D cI cJ cZ cP cS po x0 xs j0 k0 w0 rd mv xr (im) (lf) fr hy0 hy1 hy2 hy3 H.size) (cwV 1 hts gX7_pulls_X7_refuse rfl rfl rfl ⟨rfl, dh_X7_refuse⟩ ⟨Nat.le_of_ble_eq_true rfl, Nat.le_of_ble_eq_true rfl⟩) hK hN (hZ.kept hS) hP hD hS hA [0, 1] [2, 3] rfl rfl (by decide) (by decide) (by decide) (va_recv (q := (RX7, TX7, 9)) hK hP (ci := 7) (q0 := 0) rfl rfl) rfl hl.1 rfl (Nat.le_of_ble_eq_true rfl) dX7_pulls_15 ⟨Nat.le_of_ble_eq_true rfl, Nat.le_of_ble_eq_true rfl⟩ (fun r_10 u_11 H locs hr_10 hP hD hS => ?_)
    obtain ⟨q_12, rfl⟩ : ∃ z, z = u_11 := ⟨_, rfl⟩
    have h9R := zRe (ws' := [(j0, .inr (0, [.ref z0, .ref jp, .ref jc, .int cn, .int de, .int tr, .int se, .int hu, .int sd])), (jp, .inl (cP, 8, .inr (.inr (.inr (.inr fp))))), (x0, .inr (7, [.ref xs, .ref j0, .ref k0, .ref w0, .ref rd, .ref mv, .ref xr, .int im, .int lf])), (xr, .inl (cI, 8, .inl q_12))]) hP hD rfl
    clear hP hD
    obtain ⟨hP, hD⟩ := h9R
    obtain rfl := hr_10
    exact W.iret (v := (-1)) hx hb hr (fun t ht hW => ⟨⟨(-1), (de, tr, se, sd, q_12), rfl, ⟨(show 0 ≤ de.toInt ∧ de.toInt ≤ 24 from ⟨hy6, hy7⟩), (show ((p_.toInt < 0 ∨ cn.toInt ≤ p_.toInt) ∧ ((-1) : Int32).toInt = -1 ∧ de = de ∧ se = se ∧ tr = tr ∧ sd = sd) ∨ ((0 ≤ p_.toInt ∧ p_.toInt < cn.toInt) ∧ ((¬ (1 ≤ de.toInt ∧ (tf p_.toNatClampNeg).toInt ≤ se.toInt) ∧ ((-1) : Int32).toInt = -6 ∧ de = de ∧ se = se ∧ tr = tr ∧ sd = sd) ∨ ((1 ≤ de.toInt ∧ (tf p_.toNatClampNeg).toInt ≤ se.toInt) ∧ zP1 (kf p_.toNatClampNeg).toInt (af p_.toNatClampNeg).toInt (tf p_.toNatClampNeg).toInt hu.toInt (de.toInt, se.toInt, tr, sd) = (de.toInt, se.toInt, tr, sd) ∧ ((-1) : Int32).toInt = de.toInt))) from by (have k9 : ((-1) : Int32).toInt = -1 := (by decide); exact Or.inl ⟨by omega, by omega, rfl, rfl, rfl, rfl⟩)), trivial⟩, zRet ht hP hD [2, 3, 0, 1] (by decide) rfl⟩, hS.F ht⟩) hS.2.2 dX7_pulls_18
  · refine W.eq (g2 := F0 m 8 ls (.ref u_6 :: [])) rfl ?_
    obtain ⟨hku_6, hau_6, htu_6⟩ := zPu_pr (hZ.kept hS) huu_6
    refine lv_astore_n (lv' := [(2, .ref u_6), (0, .ref x0), (1, .int p_)]) hx hb dX7_pulls_8 rfl hl (by decide) rfl (fun ls hl => ?_)
    refine lv_aload_n hx hb dX7_pulls_9 rfl (lv_at hl 0 rfl) ?_
    refine lv_ifnonnull (tgt := 19) hx hb dX7_pulls_10 (by decide) ?_
    refine lv_aload_n hx hb dX7_pulls_19 rfl (lv_at hl 1 rfl) ?_
    refine va_get (D := D) (ci := 7) (v := .ref j0) (C := RX7) (T := TX7) (N := 9) hx hb hts hi_X7_pulls_7 hown hK hP 0 rfl rfl 1 (by decide) (hts (.fieldLink RX7 18 "TheLiningsInIt" "now" "LTheLiningsInIt$Jacket;") (List.mem_of_getElem? (i := 1) rfl)) (fun _ h9 => h9) rfl dX7_pulls_20 ?_
    refine lv_aload_n hx hb dX7_pulls_23 rfl (lv_at hl 0 rfl) ?_
    refine zc_V (As := [.ref u_6]) (rest := []) ⟨hx, hb, hml, hown, hts⟩ (c_J_mayBe l D cI cJ cZ cP cS po j0 jp jc z0 0 0 (cn) (de) (tr) (se) (hu) (sd) u_6 (kiu_6) (au_6) (tu_6) huu_6 ⟨by omega, by omega, by omega, by omega⟩ hy4 hy5 hy6 hy7 hy8 hy9) (cwV 1 hts gX7_pulls_X0_mayBe rfl rfl rfl ⟨rfl, dh_X0_mayBe⟩ ⟨Nat.le_of_ble_eq_true rfl, Nat.le_of_ble_eq_true rfl⟩) hK hN (hZ.kept hS) hP (hP.sub [2] rfl) (va_recv (q := (RX0, TX0, 9)) hK hP (ci := 0) (q0 := 2) rfl rfl) rfl hl.1 rfl (Nat.le_of_ble_eq_true rfl) dX7_pulls_24 ⟨Nat.le_of_ble_eq_true rfl, Nat.le_of_ble_eq_true rfl⟩ (fun r_13 hr_13 => ?_)
    rcases hr_13 with ⟨rfl, g_14⟩ | ⟨rfl, g_15, g_16⟩ | ⟨rfl, g_17, g_18⟩
    · refine lv_if_ne (tgt := 37) hx hb dX7_pulls_27 (by decide) (fun c_19 => ?_) (fun c_19 => ?_)
      · exact absurd c_19 (by decide)
      · refine lv_aload_n hx hb dX7_pulls_30 rfl (lv_at hl 1 rfl) ?_
        refine lv_bipush (v := 6) hx hb dX7_pulls_31 (by decide) ?_
        skip
        refine zw_V (As := [.int 6]) (rest := []) (wr := [(j0, .inr (0, [.ref z0, .ref jp, .ref jc, .int cn, .int de, .int tr, .int se, .int hu, .int sd])), (jp, .inl (cP, 8, .inr (.inr (.inr (.inr fp)))))]) ⟨hx, hb, hml, hown, hts⟩ (c_X_refuse_6 l D cI cJ cZ cP cS po x0 xs j0 k0 w0 rd mv xr (im) (lf) fr hy0 hy1 hy2 hy3 H.size) (cwV 1 hts gX7_pulls_X7_refuse rfl rfl rfl ⟨rfl, dh_X7_refuse⟩ ⟨Nat.le_of_ble_eq_true rfl, Nat.le_of_ble_eq_true rfl⟩) hK hN (hZ.kept hS) hP hD hS hA [0, 1] [2, 3] rfl rfl (by decide) (by decide) (by decide) (va_recv (q := (RX7, TX7, 9)) hK hP (ci := 7) (q0 := 0) rfl rfl) rfl hl.1 rfl (Nat.le_of_ble_eq_true rfl) dX7_pulls_33 ⟨Nat.le_of_ble_eq_true rfl, Nat.le_of_ble_eq_true rfl⟩ (fun r_20 u_21 H locs hr_20 hP hD hS => ?_)
        obtain ⟨q_22, rfl⟩ : ∃ z, z = u_21 := ⟨_, rfl⟩
        have h9R := zRe (ws' := [(j0, .inr (0, [.ref z0, .ref jp, .ref jc, .int cn, .int de, .int tr, .int se, .int hu, .int sd])), (jp, .inl (cP, 8, .inr (.inr (.inr (.inr fp))))), (x0, .inr (7, [.ref xs, .ref j0, .ref k0, .ref w0, .ref rd, .ref mv, .ref xr, .int im, .int lf])), (xr, .inl (cI, 8, .inl q_22))]) hP hD rfl
        clear hP hD
        obtain ⟨hP, hD⟩ := h9R
        obtain rfl := hr_20
        exact W.iret (v := (-6)) hx hb hr (fun t ht hW => ⟨⟨(-6), (de, tr, se, sd, q_22), rfl, ⟨(show 0 ≤ de.toInt ∧ de.toInt ≤ 24 from ⟨hy6, hy7⟩), (show ((p_.toInt < 0 ∨ cn.toInt ≤ p_.toInt) ∧ ((-6) : Int32).toInt = -1 ∧ de = de ∧ se = se ∧ tr = tr ∧ sd = sd) ∨ ((0 ≤ p_.toInt ∧ p_.toInt < cn.toInt) ∧ ((¬ (1 ≤ de.toInt ∧ (tf p_.toNatClampNeg).toInt ≤ se.toInt) ∧ ((-6) : Int32).toInt = -6 ∧ de = de ∧ se = se ∧ tr = tr ∧ sd = sd) ∨ ((1 ≤ de.toInt ∧ (tf p_.toNatClampNeg).toInt ≤ se.toInt) ∧ zP1 (kf p_.toNatClampNeg).toInt (af p_.toNatClampNeg).toInt (tf p_.toNatClampNeg).toInt hu.toInt (de.toInt, se.toInt, tr, sd) = (de.toInt, se.toInt, tr, sd) ∧ ((-6) : Int32).toInt = de.toInt))) from by (have k9 : ((-6) : Int32).toInt = -6 := (by decide); obtain ⟨⟨y1, y2, y3⟩, y4, y5⟩ := hkku_6; exact Or.inr ⟨by omega, Or.inl ⟨fun z => by (have z2 := z.2; rw [← y3] at z2; omega), by omega, rfl, rfl, rfl, rfl⟩⟩)), trivial⟩, zRet ht hP hD [2, 3, 0, 1] (by decide) rfl⟩, hS.F ht⟩) hS.2.2 dX7_pulls_36
    · refine lv_if_ne (tgt := 37) hx hb dX7_pulls_27 (by decide) (fun c_23 => ?_) (fun c_23 => ?_)
      · exact absurd c_23 (by decide)
      · refine lv_aload_n hx hb dX7_pulls_30 rfl (lv_at hl 1 rfl) ?_
        refine lv_bipush (v := 6) hx hb dX7_pulls_31 (by decide) ?_
        skip
        refine zw_V (As := [.int 6]) (rest := []) (wr := [(j0, .inr (0, [.ref z0, .ref jp, .ref jc, .int cn, .int de, .int tr, .int se, .int hu, .int sd])), (jp, .inl (cP, 8, .inr (.inr (.inr (.inr fp)))))]) ⟨hx, hb, hml, hown, hts⟩ (c_X_refuse_6 l D cI cJ cZ cP cS po x0 xs j0 k0 w0 rd mv xr (im) (lf) fr hy0 hy1 hy2 hy3 H.size) (cwV 1 hts gX7_pulls_X7_refuse rfl rfl rfl ⟨rfl, dh_X7_refuse⟩ ⟨Nat.le_of_ble_eq_true rfl, Nat.le_of_ble_eq_true rfl⟩) hK hN (hZ.kept hS) hP hD hS hA [0, 1] [2, 3] rfl rfl (by decide) (by decide) (by decide) (va_recv (q := (RX7, TX7, 9)) hK hP (ci := 7) (q0 := 0) rfl rfl) rfl hl.1 rfl (Nat.le_of_ble_eq_true rfl) dX7_pulls_33 ⟨Nat.le_of_ble_eq_true rfl, Nat.le_of_ble_eq_true rfl⟩ (fun r_24 u_25 H locs hr_24 hP hD hS => ?_)
        obtain ⟨q_26, rfl⟩ : ∃ z, z = u_25 := ⟨_, rfl⟩
        have h9R := zRe (ws' := [(j0, .inr (0, [.ref z0, .ref jp, .ref jc, .int cn, .int de, .int tr, .int se, .int hu, .int sd])), (jp, .inl (cP, 8, .inr (.inr (.inr (.inr fp))))), (x0, .inr (7, [.ref xs, .ref j0, .ref k0, .ref w0, .ref rd, .ref mv, .ref xr, .int im, .int lf])), (xr, .inl (cI, 8, .inl q_26))]) hP hD rfl
        clear hP hD
        obtain ⟨hP, hD⟩ := h9R
        obtain rfl := hr_24
        exact W.iret (v := (-6)) hx hb hr (fun t ht hW => ⟨⟨(-6), (de, tr, se, sd, q_26), rfl, ⟨(show 0 ≤ de.toInt ∧ de.toInt ≤ 24 from ⟨hy6, hy7⟩), (show ((p_.toInt < 0 ∨ cn.toInt ≤ p_.toInt) ∧ ((-6) : Int32).toInt = -1 ∧ de = de ∧ se = se ∧ tr = tr ∧ sd = sd) ∨ ((0 ≤ p_.toInt ∧ p_.toInt < cn.toInt) ∧ ((¬ (1 ≤ de.toInt ∧ (tf p_.toNatClampNeg).toInt ≤ se.toInt) ∧ ((-6) : Int32).toInt = -6 ∧ de = de ∧ se = se ∧ tr = tr ∧ sd = sd) ∨ ((1 ≤ de.toInt ∧ (tf p_.toNatClampNeg).toInt ≤ se.toInt) ∧ zP1 (kf p_.toNatClampNeg).toInt (af p_.toNatClampNeg).toInt (tf p_.toNatClampNeg).toInt hu.toInt (de.toInt, se.toInt, tr, sd) = (de.toInt, se.toInt, tr, sd) ∧ ((-6) : Int32).toInt = de.toInt))) from by (have k9 : ((-6) : Int32).toInt = -6 := (by decide); obtain ⟨⟨y1, y2, y3⟩, y4, y5⟩ := hkku_6; exact Or.inr ⟨by omega, Or.inl ⟨fun z => by (have z2 := z.2; rw [← y3] at z2; omega), by omega, rfl, rfl, rfl, rfl⟩⟩)), trivial⟩, zRet ht hP hD [2, 3, 0, 1] (by decide) rfl⟩, hS.F ht⟩) hS.2.2 dX7_pulls_36
    · refine lv_if_ne (tgt := 37) hx hb dX7_pulls_27 (by decide) (fun c_27 => ?_) (fun c_27 => ?_)
      · refine lv_aload_n hx hb dX7_pulls_37 rfl (lv_at hl 1 rfl) ?_
        refine va_get (D := D) (ci := 7) (v := .ref j0) (C := RX7) (T := TX7) (N := 9) hx hb hts hi_X7_pulls_7 hown hK hP 0 rfl rfl 1 (by decide) (hts (.fieldLink RX7 18 "TheLiningsInIt" "now" "LTheLiningsInIt$Jacket;") (List.mem_of_getElem? (i := 1) rfl)) (fun _ h9 => h9) rfl dX7_pulls_38 ?_
        refine lv_aload_n hx hb dX7_pulls_41 rfl (lv_at hl 0 rfl) ?_
        skip
        refine zw_Vv (As := [.ref u_6]) (rest := []) (wr := [(x0, .inr (7, [.ref xs, .ref j0, .ref k0, .ref w0, .ref rd, .ref mv, .ref xr, .int im, .int lf])), (xr, .inl (cI, 8, .inl fr)), (jp, .inl (cP, 8, .inr (.inr (.inr (.inr fp)))))]) ⟨hx, hb, hml, hown, hts⟩ (c_F_J_pullInTruth l D cI cJ cZ cP cS po j0 jp jc z0 0 0 (cn) (de) (tr) (se) (hu) (sd) u_6 (kiu_6) (au_6) (tu_6) huu_6 ⟨by omega, by omega, by omega, by omega⟩ hy4 hy5 hy6 hy7 hy8 hy9 hy11 hy12 (by omega) H.size) (cwV 1 hts gX7_pulls_X0_pullInTruth rfl rfl rfl ⟨rfl, dh_X0_pullInTruth⟩ ⟨Nat.le_of_ble_eq_true rfl, Nat.le_of_ble_eq_true rfl⟩) hK hN (hZ.kept hS) hP hD hS hA [2] [0, 1, 3] rfl rfl (by decide) (by decide) (by decide) (va_recv (q := (RX0, TX0, 9)) hK hP (ci := 0) (q0 := 2) rfl rfl) rfl hl.1 rfl (Nat.le_of_ble_eq_true rfl) dX7_pulls_42 ⟨Nat.le_of_ble_eq_true rfl, Nat.le_of_ble_eq_true rfl⟩ (fun u_29 H locs hr_28 hP hD hS => ?_)
        obtain ⟨q_30, q_31, q_32, q_33⟩ := u_29
        try dsimp only at hr_28
        obtain ⟨hbq_30, hsr_28_0, hsr_28_1, hr_28⟩ := hr_28
        have h9R := zRe (ws' := [(x0, .inr (7, [.ref xs, .ref j0, .ref k0, .ref w0, .ref rd, .ref mv, .ref xr, .int im, .int lf])), (xr, .inl (cI, 8, .inl fr)), (jp, .inl (cP, 8, .inr (.inr (.inr (.inr fp))))), (j0, .inr (0, [.ref z0, .ref jp, .ref jc, .int cn, .int q_30, .int q_31, .int q_32, .int hu, .int q_33]))]) hP hD rfl
        clear hP hD
        obtain ⟨hP, hD⟩ := h9R
        refine lv_aload_n hx hb dX7_pulls_45 rfl (lv_at hl 1 rfl) ?_
        refine va_get (D := D) (ci := 7) (v := .ref j0) (C := RX7) (T := TX7) (N := 9) hx hb hts hi_X7_pulls_7 hown hK hP 0 rfl rfl 1 (by decide) (hts (.fieldLink RX7 18 "TheLiningsInIt" "now" "LTheLiningsInIt$Jacket;") (List.mem_of_getElem? (i := 1) rfl)) (fun _ h9 => h9) rfl dX7_pulls_46 ?_
        refine va_get (D := D) (ci := 0) (v := .int q_30) (C := RX0) (T := TX0) (N := 9) hx hb hts hi_X7_pulls_0 hown hK hP 3 rfl rfl 4 (by decide) (hts (.fieldLink RX7 199 "TheLiningsInIt$Jacket" "depth" "I") (List.mem_of_getElem? (i := 2) rfl)) (fun _ h9 => h9) rfl dX7_pulls_49 ?_
        exact W.iret (v := q_30) hx hb hr (fun t ht hW => ⟨⟨q_30, (q_30, q_31, q_32, q_33, fr), rfl, ⟨(show 0 ≤ q_30.toInt ∧ q_30.toInt ≤ 24 from hbq_30), (show ((p_.toInt < 0 ∨ cn.toInt ≤ p_.toInt) ∧ (q_30 : Int32).toInt = -1 ∧ q_30 = de ∧ q_32 = se ∧ q_31 = tr ∧ q_33 = sd) ∨ ((0 ≤ p_.toInt ∧ p_.toInt < cn.toInt) ∧ ((¬ (1 ≤ de.toInt ∧ (tf p_.toNatClampNeg).toInt ≤ se.toInt) ∧ (q_30 : Int32).toInt = -6 ∧ q_30 = de ∧ q_32 = se ∧ q_31 = tr ∧ q_33 = sd) ∨ ((1 ≤ de.toInt ∧ (tf p_.toNatClampNeg).toInt ≤ se.toInt) ∧ zP1 (kf p_.toNatClampNeg).toInt (af p_.toNatClampNeg).toInt (tf p_.toNatClampNeg).toInt hu.toInt (de.toInt, se.toInt, tr, sd) = (q_30.toInt, q_32.toInt, q_31, q_33) ∧ (q_30 : Int32).toInt = q_30.toInt))) from by (obtain ⟨⟨y1, y2, y3⟩, y4, y5⟩ := hkku_6; refine Or.inr ⟨by omega, Or.inr ⟨⟨by omega, by rw [← y3]; omega⟩, ?_, ?_⟩⟩; (rw [← y1, ← y2, ← y3]; exact hsr_28_0); first | rfl | omega)), trivial⟩, zRet ht hP hD [0, 1, 3, 2] (by decide) rfl⟩, hS.F ht⟩) hS.2.2 dX7_pulls_52
      · exact absurd c_27 (by decide)
set_option maxHeartbeats 4000000 in
set_option maxRecDepth 100000 in
theorem c_F_X_close (l : Launch) (D : va_G) (cI cJ cZ cP cS : ClassId) (po : zPool) (x0 xs j0 k0 w0 rd mv xr : Nat) (im lf : Int32) (fr : Nat → Int32) (j0 jp jc z0 zl zs : Nat) (cn de tr se hu sd : Int32) (sz at_ gp : Int32) (fl fs : Nat → Int32) (hy0 : 0 ≤ im.toInt) (hy1 : im.toInt ≤ 1) (hy2 : (-1) ≤ lf.toInt) (hy3 : lf.toInt ≤ 160) (hy4 : 0 ≤ cn.toInt) (hy5 : cn.toInt ≤ 8) (hy6 : 0 ≤ de.toInt) (hy7 : de.toInt ≤ 24) (hy8 : 0 ≤ hu.toInt) (hy9 : hu.toInt ≤ 9) (hy10 : 4 ≤ sz.toInt) (hy11 : sz.toInt ≤ 40) (hy12 : 0 ≤ at_.toInt) (hy13 : at_.toInt ≤ 40) (hy14 : 1 ≤ gp.toInt) (hy15 : gp.toInt ≤ 9) (hy16 : at_.toInt ≤ sz.toInt) (hp_fl : zRg fl (0) 1) (hp_fs : zRg fs (0) 9) (hpz : Nat) : Met l yX7_close wsX7_close ({ frames := 4, cells := 0, slots := 0, locals := 84 }) (va_Pc [.ref x0] (zW D (zKT cI cJ cZ cP cS) po [(x0, .inr (7, [.ref xs, .ref j0, .ref k0, .ref w0, .ref rd, .ref mv, .ref xr, .int im, .int lf])), (xr, .inl (cI, 8, .inl fr)), (j0, .inr (0, [.ref z0, .ref jp, .ref jc, .int cn, .int de, .int tr, .int se, .int hu, .int sd])), (z0, .inr (6, [.ref zl, .ref zs, .int sz, .int at_, .int gp])), (zl, .inl (cZ, 40, .inl fl)), (zs, .inl (cI, 40, .inl fs))] hpz)) (va_Qi (fun (r : Int32) (u : (Int32) × (Int32) × (Int32) × (Nat → Int32)) => (0 ≤ u.1.toInt ∧ u.1.toInt ≤ 24) ∧ (0 ≤ u.2.2.1.toInt ∧ u.2.2.1.toInt ≤ 40) ∧ ((de.toInt ≠ 0 ∧ r.toInt = -6 ∧ u.2.2.1 = at_ ∧ u.1 = de ∧ u.2.1 = sd) ∨ (de.toInt = 0 ∧ zCz fl fs gp.toInt sz.toInt (sz.toInt - at_.toInt).toNat at_.toInt de.toInt sd = (u.2.2.1.toInt, u.1.toInt, u.2.1) ∧ r.toInt = u.2.2.1.toInt)) ∧ (True)) (zB D [(x0, .inr (7, [.ref xs, .ref j0, .ref k0, .ref w0, .ref rd, .ref mv, .ref xr, .int im, .int lf])), (xr, .inl (cI, 8, .inl fr)), (j0, .inr (0, [.ref z0, .ref jp, .ref jc, .int cn, .int de, .int tr, .int se, .int hu, .int sd])), (z0, .inr (6, [.ref zl, .ref zs, .int sz, .int at_, .int gp])), (zl, .inl (cZ, 40, .inl fl)), (zs, .inl (cI, 40, .inl fs))] hpz (fun (u : (Int32) × (Int32) × (Int32) × (Nat → Int32)) => [(x0, .inr (7, [.ref xs, .ref j0, .ref k0, .ref w0, .ref rd, .ref mv, .ref xr, .int im, .int lf])), (xr, .inl (cI, 8, .inl u.2.2.2)), (j0, .inr (0, [.ref z0, .ref jp, .ref jc, .int cn, .int u.1, .int tr, .int se, .int hu, .int u.2.1])), (z0, .inr (6, [.ref zl, .ref zs, .int sz, .int u.2.2.1, .int gp])), (zl, .inl (cZ, 40, .inl fl)), (zs, .inl (cI, 40, .inl fs))])) (va_A [(x0, .inr (7, [.ref xs, .ref j0, .ref k0, .ref w0, .ref rd, .ref mv, .ref xr, .int im, .int lf])), (xr, .inl (cI, 8, .inl fr)), (j0, .inr (0, [.ref z0, .ref jp, .ref jc, .int cn, .int de, .int tr, .int se, .int hu, .int sd])), (z0, .inr (6, [.ref zl, .ref zs, .int sz, .int at_, .int gp])), (zl, .inl (cZ, 40, .inl fl)), (zs, .inl (cI, 40, .inl fs))] hpz)) 0 0 (va_A [(x0, .inr (7, [.ref xs, .ref j0, .ref k0, .ref w0, .ref rd, .ref mv, .ref xr, .int im, .int lf])), (xr, .inl (cI, 8, .inl fr)), (j0, .inr (0, [.ref z0, .ref jp, .ref jc, .int cn, .int de, .int tr, .int se, .int hu, .int sd])), (z0, .inr (6, [.ref zl, .ref zs, .int sz, .int at_, .int gp])), (zl, .inl (cZ, 40, .inl fl)), (zs, .inl (cI, 40, .inl fs))] hpz) := by
  refine Met.ofW (cc := cX7_close) (maxL := 1) (ret := (some .int)) (by decide) rfl ?_
  intro p e s m args below meth c s₁ B hml hv
  obtain ⟨rfl, hsz, hP, hK, hD0, hN, hZ⟩ := hv
  have hx := B.exec
  have hb := B.bytes
  have hr := B.returns
  have hts := atoms_spec (ws := wsX7_close) B.pre
  have hown : s.vm.findClass RX7 = some m.cls := findClass_of_methodNamed B.named
  have hlocks := B.notSynchronized
  subst hsz
  have hD := hD0.self (sz := s.heap.size)
  have hA := zA_of hD
  have hl := lv_entry ([.ref x0]) (n := 1) (Nat.le_of_ble_eq_true rfl)
  rw [lg_entry_eq]
  generalize (lg_sl ([.ref x0]) ++ List.replicate (1 - (lg_sl ([.ref x0])).length) Slot.unset).toArray = ls at hl ⊢
  replace hl : lv_has ls 1 [(0, .ref x0)] := hl
  refine zw_begin hP hD (fun H locs hP1 hS => ?_)
  clear hP
  have hP := hP1
  clear hP1
  refine lv_aload_n hx hb dX7_close_0 rfl (lv_at hl 0 rfl) ?_
  refine va_get (D := D) (ci := 7) (v := .ref j0) (C := RX7) (T := TX7) (N := 9) hx hb hts hi_X7_close_7 hown hK hP 0 rfl rfl 1 (by decide) (hts (.fieldLink RX7 18 "TheLiningsInIt" "now" "LTheLiningsInIt$Jacket;") (List.mem_of_getElem? (i := 1) rfl)) (fun _ h9 => h9) rfl dX7_close_1 ?_
  refine va_get (D := D) (ci := 0) (v := .int de) (C := RX0) (T := TX0) (N := 9) hx hb hts hi_X7_close_0 hown hK hP 2 rfl rfl 4 (by decide) (hts (.fieldLink RX7 199 "TheLiningsInIt$Jacket" "depth" "I") (List.mem_of_getElem? (i := 2) rfl)) (fun _ h9 => h9) rfl dX7_close_4 ?_
  refine lv_if_eq (tgt := 17) hx hb dX7_close_7 (by decide) (fun c_1 => ?_) (fun c_1 => ?_)
  · have fc_1 : de.toInt = 0 := zf_eq c_1 rfl (by decide)
    refine lv_aload_n hx hb dX7_close_17 rfl (lv_at hl 0 rfl) ?_
    refine va_get (D := D) (ci := 7) (v := .ref j0) (C := RX7) (T := TX7) (N := 9) hx hb hts hi_X7_close_7 hown hK hP 0 rfl rfl 1 (by decide) (hts (.fieldLink RX7 18 "TheLiningsInIt" "now" "LTheLiningsInIt$Jacket;") (List.mem_of_getElem? (i := 1) rfl)) (fun _ h9 => h9) rfl dX7_close_18 ?_
    skip
    refine zw_Vv (As := []) (rest := []) (wr := [(x0, .inr (7, [.ref xs, .ref j0, .ref k0, .ref w0, .ref rd, .ref mv, .ref xr, .int im, .int lf])), (xr, .inl (cI, 8, .inl fr))]) ⟨hx, hb, hml, hown, hts⟩ (c_F_J_closeInTruth l D cI cJ cZ cP cS po j0 jp jc z0 zl zs (cn) (de) (tr) (se) (hu) (sd) (sz) (at_) (gp) fl fs hy4 hy5 hy6 hy7 hy8 hy9 hy10 hy11 hy12 hy13 hy14 hy15 (by omega) hp_fl hp_fs H.size) (cwV 0 hts gX7_close_X0_closeInTruth rfl rfl rfl ⟨rfl, dh_X0_closeInTruth⟩ ⟨Nat.le_of_ble_eq_true rfl, Nat.le_of_ble_eq_true rfl⟩) hK hN (hZ.kept hS) hP hD hS hA [2, 3, 4, 5] [0, 1] rfl rfl (by decide) (by decide) (by decide) (va_recv (q := (RX0, TX0, 9)) hK hP (ci := 0) (q0 := 2) rfl rfl) rfl hl.1 rfl (Nat.le_of_ble_eq_true rfl) dX7_close_21 ⟨Nat.le_of_ble_eq_true rfl, Nat.le_of_ble_eq_true rfl⟩ (fun u_3 H locs hr_2 hP hD hS => ?_)
    obtain ⟨q_4, q_5, q_6⟩ := u_3
    try dsimp only at hr_2
    obtain ⟨hbq_4, hbq_6, hsr_2_0, hsr_2_1, hr_2⟩ := hr_2
    have h9R := zRe (ws' := [(x0, .inr (7, [.ref xs, .ref j0, .ref k0, .ref w0, .ref rd, .ref mv, .ref xr, .int im, .int lf])), (xr, .inl (cI, 8, .inl fr)), (j0, .inr (0, [.ref z0, .ref jp, .ref jc, .int cn, .int q_4, .int tr, .int se, .int hu, .int q_5])), (z0, .inr (6, [.ref zl, .ref zs, .int sz, .int q_6, .int gp])), (zl, .inl (cZ, 40, .inl fl)), (zs, .inl (cI, 40, .inl fs))]) hP hD rfl
    clear hP hD
    obtain ⟨hP, hD⟩ := h9R
    refine lv_aload_n hx hb dX7_close_24 rfl (lv_at hl 0 rfl) ?_
    refine va_get (D := D) (ci := 7) (v := .ref j0) (C := RX7) (T := TX7) (N := 9) hx hb hts hi_X7_close_7 hown hK hP 0 rfl rfl 1 (by decide) (hts (.fieldLink RX7 18 "TheLiningsInIt" "now" "LTheLiningsInIt$Jacket;") (List.mem_of_getElem? (i := 1) rfl)) (fun _ h9 => h9) rfl dX7_close_25 ?_
    refine va_get (D := D) (ci := 0) (v := .ref z0) (C := RX0) (T := TX0) (N := 9) hx hb hts hi_X7_close_0 hown hK hP 2 rfl rfl 0 (by decide) (hts (.fieldLink RX7 140 "TheLiningsInIt$Jacket" "zip" "LTheLiningsInIt$Zip;") (List.mem_of_getElem? (i := 3) rfl)) (fun _ h9 => h9) rfl dX7_close_28 ?_
    refine va_get (D := D) (ci := 6) (v := .int q_6) (C := RX6) (T := TX6) (N := 5) hx hb hts hi_X7_close_6 hown hK hP 3 rfl rfl 3 (by decide) (hts (.fieldLink RX7 275 "TheLiningsInIt$Zip" "at" "I") (List.mem_of_getElem? (i := 4) rfl)) (fun _ h9 => h9) rfl dX7_close_31 ?_
    exact W.iret (v := q_6) hx hb hr (fun t ht hW => ⟨⟨q_6, (q_4, q_5, q_6, fr), rfl, ⟨(show 0 ≤ q_4.toInt ∧ q_4.toInt ≤ 24 from hbq_4), (show 0 ≤ q_6.toInt ∧ q_6.toInt ≤ 40 from hbq_6), (show (de.toInt ≠ 0 ∧ (q_6 : Int32).toInt = -6 ∧ q_6 = at_ ∧ q_4 = de ∧ q_5 = sd) ∨ (de.toInt = 0 ∧ zCz fl fs gp.toInt sz.toInt (sz.toInt - at_.toInt).toNat at_.toInt de.toInt sd = (q_6.toInt, q_4.toInt, q_5) ∧ (q_6 : Int32).toInt = q_6.toInt) from by (exact Or.inr ⟨by omega, hsr_2_0, by first | rfl | omega⟩)), trivial⟩, zRet ht hP hD [0, 1, 2, 3, 4, 5] (by decide) rfl⟩, hS.F ht⟩) hS.2.2 dX7_close_34
  · have fc_1 : de.toInt ≠ 0 := zf_ne c_1 rfl (by decide)
    refine lv_aload_n hx hb dX7_close_10 rfl (lv_at hl 0 rfl) ?_
    refine lv_bipush (v := 6) hx hb dX7_close_11 (by decide) ?_
    skip
    refine zw_V (As := [.int 6]) (rest := []) (wr := [(j0, .inr (0, [.ref z0, .ref jp, .ref jc, .int cn, .int de, .int tr, .int se, .int hu, .int sd])), (z0, .inr (6, [.ref zl, .ref zs, .int sz, .int at_, .int gp])), (zl, .inl (cZ, 40, .inl fl)), (zs, .inl (cI, 40, .inl fs))]) ⟨hx, hb, hml, hown, hts⟩ (c_X_refuse_6 l D cI cJ cZ cP cS po x0 xs j0 k0 w0 rd mv xr (im) (lf) fr hy0 hy1 hy2 hy3 H.size) (cwV 1 hts gX7_close_X7_refuse rfl rfl rfl ⟨rfl, dh_X7_refuse⟩ ⟨Nat.le_of_ble_eq_true rfl, Nat.le_of_ble_eq_true rfl⟩) hK hN (hZ.kept hS) hP hD hS hA [0, 1] [2, 3, 4, 5] rfl rfl (by decide) (by decide) (by decide) (va_recv (q := (RX7, TX7, 9)) hK hP (ci := 7) (q0 := 0) rfl rfl) rfl hl.1 rfl (Nat.le_of_ble_eq_true rfl) dX7_close_13 ⟨Nat.le_of_ble_eq_true rfl, Nat.le_of_ble_eq_true rfl⟩ (fun r_7 u_8 H locs hr_7 hP hD hS => ?_)
    obtain ⟨q_9, rfl⟩ : ∃ z, z = u_8 := ⟨_, rfl⟩
    have h9R := zRe (ws' := [(j0, .inr (0, [.ref z0, .ref jp, .ref jc, .int cn, .int de, .int tr, .int se, .int hu, .int sd])), (z0, .inr (6, [.ref zl, .ref zs, .int sz, .int at_, .int gp])), (zl, .inl (cZ, 40, .inl fl)), (zs, .inl (cI, 40, .inl fs)), (x0, .inr (7, [.ref xs, .ref j0, .ref k0, .ref w0, .ref rd, .ref mv, .ref xr, .int im, .int lf])), (xr, .inl (cI, 8, .inl q_9))]) hP hD rfl
    clear hP hD
    obtain ⟨hP, hD⟩ := h9R
    obtain rfl := hr_7
    exact W.iret (v := (-6)) hx hb hr (fun t ht hW => ⟨⟨(-6), (de, sd, at_, q_9), rfl, ⟨(show 0 ≤ de.toInt ∧ de.toInt ≤ 24 from ⟨hy6, hy7⟩), (show 0 ≤ at_.toInt ∧ at_.toInt ≤ 40 from ⟨hy12, hy13⟩), (show (de.toInt ≠ 0 ∧ ((-6) : Int32).toInt = -6 ∧ at_ = at_ ∧ de = de ∧ sd = sd) ∨ (de.toInt = 0 ∧ zCz fl fs gp.toInt sz.toInt (sz.toInt - at_.toInt).toNat at_.toInt de.toInt sd = (at_.toInt, de.toInt, sd) ∧ ((-6) : Int32).toInt = at_.toInt) from by (have k9 : ((-6) : Int32).toInt = -6 := (by decide); exact Or.inl ⟨by omega, by omega, rfl, rfl, rfl⟩)), trivial⟩, zRet ht hP hD [4, 5, 0, 1, 2, 3] (by decide) rfl⟩, hS.F ht⟩) hS.2.2 dX7_close_16
set_option maxHeartbeats 4000000 in
set_option maxRecDepth 100000 in
theorem c_F_X_seed (l : Launch) (D : va_G) (cI cJ cZ cP cS : ClassId) (po : zPool) (x0 xs j0 k0 w0 rd mv xr : Nat) (im lf : Int32) (fr : Nat → Int32) (j0 jp jc z0 zl zs : Nat) (cn de tr se hu sd : Int32) (v : Int32) (hy0 : 0 ≤ im.toInt) (hy1 : im.toInt ≤ 1) (hy2 : (-1) ≤ lf.toInt) (hy3 : lf.toInt ≤ 160) (hy4 : 0 ≤ cn.toInt) (hy5 : cn.toInt ≤ 8) (hy6 : 0 ≤ de.toInt) (hy7 : de.toInt ≤ 24) (hy8 : 0 ≤ hu.toInt) (hy9 : hu.toInt ≤ 9) (hpz : Nat) : Met l yX7_seed wsX7_seed ({ frames := 0, cells := 0, slots := 0, locals := 0 }) (va_Pc [.ref x0, .int v] (zW D (zKT cI cJ cZ cP cS) po [(x0, .inr (7, [.ref xs, .ref j0, .ref k0, .ref w0, .ref rd, .ref mv, .ref xr, .int im, .int lf])), (j0, .inr (0, [.ref z0, .ref jp, .ref jc, .int cn, .int de, .int tr, .int se, .int hu, .int sd]))] hpz)) (va_Qi (fun (r : Int32) (sd2 : (Int32)) => (r = sd ∧ sd2 = v) ∧ (True)) (zB D [(x0, .inr (7, [.ref xs, .ref j0, .ref k0, .ref w0, .ref rd, .ref mv, .ref xr, .int im, .int lf])), (j0, .inr (0, [.ref z0, .ref jp, .ref jc, .int cn, .int de, .int tr, .int se, .int hu, .int sd]))] hpz (fun (sd2 : Int32) => [(x0, .inr (7, [.ref xs, .ref j0, .ref k0, .ref w0, .ref rd, .ref mv, .ref xr, .int im, .int lf])), (j0, .inr (0, [.ref z0, .ref jp, .ref jc, .int cn, .int de, .int tr, .int se, .int hu, .int sd2]))])) (va_A [(x0, .inr (7, [.ref xs, .ref j0, .ref k0, .ref w0, .ref rd, .ref mv, .ref xr, .int im, .int lf])), (j0, .inr (0, [.ref z0, .ref jp, .ref jc, .int cn, .int de, .int tr, .int se, .int hu, .int sd]))] hpz)) 0 0 (va_A [(x0, .inr (7, [.ref xs, .ref j0, .ref k0, .ref w0, .ref rd, .ref mv, .ref xr, .int im, .int lf])), (j0, .inr (0, [.ref z0, .ref jp, .ref jc, .int cn, .int de, .int tr, .int se, .int hu, .int sd]))] hpz) := by
  refine Met.ofW (cc := cX7_seed) (maxL := 3) (ret := (some .int)) (by decide) rfl ?_
  intro p e s m args below meth c s₁ B hml hv
  obtain ⟨rfl, hsz, hP, hK, hD0, hN, hZ⟩ := hv
  have hx := B.exec
  have hb := B.bytes
  have hr := B.returns
  have hts := atoms_spec (ws := wsX7_seed) B.pre
  have hown : s.vm.findClass RX7 = some m.cls := findClass_of_methodNamed B.named
  have hlocks := B.notSynchronized
  subst hsz
  have hD := hD0.self (sz := s.heap.size)
  have hA := zA_of hD
  have hl := lv_entry ([.ref x0, .int v]) (n := 3) (Nat.le_of_ble_eq_true rfl)
  rw [lg_entry_eq]
  generalize (lg_sl ([.ref x0, .int v]) ++ List.replicate (3 - (lg_sl ([.ref x0, .int v])).length) Slot.unset).toArray = ls at hl ⊢
  replace hl : lv_has ls 3 [(0, .ref x0), (1, .int v)] := hl
  refine zw_begin hP hD (fun H locs hP1 hS => ?_)
  clear hP
  have hP := hP1
  clear hP1
  refine lv_aload_n hx hb dX7_seed_0 rfl (lv_at hl 0 rfl) ?_
  refine va_get (D := D) (ci := 7) (v := .ref j0) (C := RX7) (T := TX7) (N := 9) hx hb hts hi_X7_seed_7 hown hK hP 0 rfl rfl 1 (by decide) (hts (.fieldLink RX7 18 "TheLiningsInIt" "now" "LTheLiningsInIt$Jacket;") (List.mem_of_getElem? (i := 1) rfl)) (fun _ h9 => h9) rfl dX7_seed_1 ?_
  refine va_get (D := D) (ci := 0) (v := .int sd) (C := RX0) (T := TX0) (N := 9) hx hb hts hi_X7_seed_0 hown hK hP 1 rfl rfl 8 (by decide) (hts (.fieldLink RX7 285 "TheLiningsInIt$Jacket" "seedNow" "I") (List.mem_of_getElem? (i := 2) rfl)) (fun _ h9 => h9) rfl dX7_seed_4 ?_
  refine lv_istore_n (lv' := [(2, .int sd), (0, .ref x0), (1, .int v)]) hx hb dX7_seed_7 rfl hl (by decide) rfl (fun ls hl => ?_)
  refine lv_aload_n hx hb dX7_seed_8 rfl (lv_at hl 1 rfl) ?_
  refine va_get (D := D) (ci := 7) (v := .ref j0) (C := RX7) (T := TX7) (N := 9) hx hb hts hi_X7_seed_7 hown hK hP 0 rfl rfl 1 (by decide) (hts (.fieldLink RX7 18 "TheLiningsInIt" "now" "LTheLiningsInIt$Jacket;") (List.mem_of_getElem? (i := 1) rfl)) (fun _ h9 => h9) rfl dX7_seed_9 ?_
  refine lv_iload_n hx hb dX7_seed_12 rfl (lv_at hl 2 rfl) ?_
  refine va_put (D := D) (ci := 0) (v := .int v) (ty := .int) (C := RX0) (T := TX0) (N := 9) hx hb hts hi_X7_seed_0 tyX0 tyX0_ok nmX0 hown hK hP hD hS 1 rfl rfl 8 (by decide) (hts (.fieldLink RX7 285 "TheLiningsInIt$Jacket" "seedNow" "I") (List.mem_of_getElem? (i := 2) rfl)) (fun _ h9 => h9) rfl (tyX0_ok 8 (Nat.le_of_ble_eq_true rfl)) rfl rfl (Nat.le_of_ble_eq_true rfl) dX7_seed_13 (fun H locs hP hD hS => ?_)
  have h9R := zRe (ws' := [(x0, .inr (7, [.ref xs, .ref j0, .ref k0, .ref w0, .ref rd, .ref mv, .ref xr, .int im, .int lf])), (j0, .inr (0, [.ref z0, .ref jp, .ref jc, .int cn, .int de, .int tr, .int se, .int hu, .int v]))]) hP hD rfl
  clear hP hD
  obtain ⟨hP, hD⟩ := h9R
  refine lv_iload_n hx hb dX7_seed_16 rfl (lv_at hl 0 rfl) ?_
  exact W.iret (v := sd) hx hb hr (fun t ht hW => ⟨⟨sd, v, rfl, ⟨(show (sd : Int32) = sd ∧ v = v from by exact ⟨rfl, rfl⟩), trivial⟩, zRet ht hP hD [0, 1] (by decide) rfl⟩, hS.F ht⟩) hS.2.2 dX7_seed_17
set_option maxHeartbeats 4000000 in
set_option maxRecDepth 100000 in
theorem c_F_X_pullOf (l : Launch) (D : va_G) (cI cJ cZ cP cS : ClassId) (po : zPool) (x0 xs j0 k0 w0 rd mv xr : Nat) (im lf : Int32) (fr : Nat → Int32) (j0 jp jc z0 zl zs : Nat) (cn de tr se hu sd : Int32) (fp : Nat → Option Nat) (kf af tf : Nat → Int32) (p_ w : Int32) (hy0 : 0 ≤ im.toInt) (hy1 : im.toInt ≤ 1) (hy2 : (-1) ≤ lf.toInt) (hy3 : lf.toInt ≤ 160) (hy4 : 0 ≤ cn.toInt) (hy5 : cn.toInt ≤ 8) (hy6 : 0 ≤ de.toInt) (hy7 : de.toInt ≤ 24) (hy8 : 0 ≤ hu.toInt) (hy9 : hu.toInt ≤ 9) (hjp : zJP po fp cn kf af tf) (hpz : Nat) : Met l yX7_pullOf wsX7_pullOf ({ frames := 2, cells := 0, slots := 0, locals := 43 }) (va_Pc [.ref x0, .int p_, .int w] (zW D (zKT cI cJ cZ cP cS) po [(x0, .inr (7, [.ref xs, .ref j0, .ref k0, .ref w0, .ref rd, .ref mv, .ref xr, .int im, .int lf])), (xr, .inl (cI, 8, .inl fr)), (j0, .inr (0, [.ref z0, .ref jp, .ref jc, .int cn, .int de, .int tr, .int se, .int hu, .int sd])), (jp, .inl (cP, 8, .inr (.inr (.inr (.inr fp)))))] hpz)) (va_Qi (fun (r : Int32) (fr2 : (Nat → Int32)) => (((p_.toInt < 0 ∨ cn.toInt ≤ p_.toInt) ∧ r.toInt = -5) ∨ ((0 ≤ p_.toInt ∧ p_.toInt < cn.toInt) ∧ (((w.toInt < 0 ∨ 4 < w.toInt) ∧ r.toInt = -5) ∨ ((0 ≤ w.toInt ∧ w.toInt ≤ 4) ∧ r.toInt = (if w.toInt = 0 then (kf p_.toNatClampNeg).toInt else if w.toInt = 1 then (af p_.toNatClampNeg).toInt else if w.toInt = 2 then (tf p_.toNatClampNeg).toInt else if w.toInt = 3 then zStp (kf p_.toNatClampNeg).toInt (af p_.toNatClampNeg).toInt else if 1 ≤ de.toInt ∧ (tf p_.toNatClampNeg).toInt ≤ se.toInt then 1 else 0))))) ∧ (True)) (zB D [(x0, .inr (7, [.ref xs, .ref j0, .ref k0, .ref w0, .ref rd, .ref mv, .ref xr, .int im, .int lf])), (xr, .inl (cI, 8, .inl fr)), (j0, .inr (0, [.ref z0, .ref jp, .ref jc, .int cn, .int de, .int tr, .int se, .int hu, .int sd])), (jp, .inl (cP, 8, .inr (.inr (.inr (.inr fp)))))] hpz (fun (fr2 : Nat → Int32) => [(x0, .inr (7, [.ref xs, .ref j0, .ref k0, .ref w0, .ref rd, .ref mv, .ref xr, .int im, .int lf])), (xr, .inl (cI, 8, .inl fr2)), (j0, .inr (0, [.ref z0, .ref jp, .ref jc, .int cn, .int de, .int tr, .int se, .int hu, .int sd])), (jp, .inl (cP, 8, .inr (.inr (.inr (.inr fp)))))])) (va_A [(x0, .inr (7, [.ref xs, .ref j0, .ref k0, .ref w0, .ref rd, .ref mv, .ref xr, .int im, .int lf])), (xr, .inl (cI, 8, .inl fr)), (j0, .inr (0, [.ref z0, .ref jp, .ref jc, .int cn, .int de, .int tr, .int se, .int hu, .int sd])), (jp, .inl (cP, 8, .inr (.inr (.inr (.inr fp)))))] hpz)) 0 0 (va_A [(x0, .inr (7, [.ref xs, .ref j0, .ref k0, .ref w0, .ref rd, .ref mv, .ref xr, .int im, .int lf])), (xr, .inl (cI, 8, .inl fr)), (j0, .inr (0, [.ref z0, .ref jp, .ref jc, .int cn, .int de, .int tr, .int se, .int hu, .int sd])), (jp, .inl (cP, 8, .inr (.inr (.inr (.inr fp)))))] hpz) := by
  refine Met.ofW (cc := cX7_pullOf) (maxL := 4) (ret := (some .int)) (by decide) rfl ?_
  intro p e s m args below meth c s₁ B hml hv
  obtain ⟨rfl, hsz, hP, hK, hD0, hN, hZ⟩ := hv
  have hx := B.exec
  have hb := B.bytes
  have hr := B.returns
  have hts := atoms_spec (ws := wsX7_pullOf) B.pre
  have hown : s.vm.findClass RX7 = some m.cls := findClass_of_methodNamed B.named
  have hlocks := B.notSynchronized
  subst hsz
  have hD := hD0.self (sz := s.heap.size)
  have hA := zA_of hD
  have hl := lv_entry ([.ref x0, .int p_, .int w]) (n := 4) (Nat.le_of_ble_eq_true rfl)
  rw [lg_entry_eq]
  generalize (lg_sl ([.ref x0, .int p_, .int w]) ++ List.replicate (4 - (lg_sl ([.ref x0, .int p_, .int w])).length) Slot.unset).toArray = ls at hl ⊢
  replace hl : lv_has ls 4 [(0, .ref x0), (1, .int p_), (2, .int w)] := hl
  refine zw_begin hP hD (fun H locs hP1 hS => ?_)
  clear hP
  have hP := hP1
  clear hP1
  refine lv_aload_n hx hb dX7_pullOf_0 rfl (lv_at hl 0 rfl) ?_
  refine va_get (D := D) (ci := 7) (v := .ref j0) (C := RX7) (T := TX7) (N := 9) hx hb hts hi_X7_pullOf_7 hown hK hP 0 rfl rfl 1 (by decide) (hts (.fieldLink RX7 18 "TheLiningsInIt" "now" "LTheLiningsInIt$Jacket;") (List.mem_of_getElem? (i := 1) rfl)) (fun _ h9 => h9) rfl dX7_pullOf_1 ?_
  refine lv_iload_n hx hb dX7_pullOf_4 rfl (lv_at hl 1 rfl) ?_
  refine zc_Vq (As := [.int p_]) (rest := []) ⟨hx, hb, hml, hown, hts⟩ (c_F_J_pullAt l D cI cJ cZ cP cS po j0 jp jc z0 0 0 (cn) (de) (tr) (se) (hu) (sd) fp kf af tf (p_) hy4 hy5 hy6 hy7 hy8 hy9 hjp) (cwV 1 hts gX7_pullOf_X0_pullAt rfl rfl rfl ⟨rfl, dh_X0_pullAt⟩ ⟨Nat.le_of_ble_eq_true rfl, Nat.le_of_ble_eq_true rfl⟩) hK hN (hZ.kept hS) hP (hP.sub [2, 3] rfl) (va_recv (q := (RX0, TX0, 9)) hK hP (ci := 0) (q0 := 2) rfl rfl) rfl hl.1 rfl (Nat.le_of_ble_eq_true rfl) dX7_pullOf_5 ⟨Nat.le_of_ble_eq_true rfl, Nat.le_of_ble_eq_true rfl⟩ (fun r_1 hr_1 => ?_)
  rcases hr_1 with ⟨rfl, g_2⟩ | ⟨rfl, g_3, g_4⟩ | ⟨⟨u_6, kiu_6, au_6, tu_6, rfl, huu_6, hkku_6⟩, g_5⟩
  · refine lv_astore_nN (lv' := [(3, .null), (0, .ref x0), (1, .int p_), (2, .int w)]) hx hb dX7_pullOf_8 rfl hl (by decide) rfl (fun ls hl => ?_)
    refine lv_aload_nN hx hb dX7_pullOf_9 rfl (lv_at hl 0 rfl) ?_
    refine lv_ifnonnullN hx hb dX7_pullOf_10 ?_
    refine lv_aload_n hx hb dX7_pullOf_13 rfl (lv_at hl 1 rfl) ?_
    refine lv_iconst (v := 5) hx hb dX7_pullOf_14 (by decide) ?_
    skip
    refine zw_V (As := [.int 5]) (rest := []) (wr := [(j0, .inr (0, [.ref z0, .ref jp, .ref jc, .int cn, .int de, .int tr, .int se, .int hu, .int sd])), (jp, .inl (cP, 8, .inr (.inr (.inr (.inr fp)))))]) ⟨hx, hb, hml, hown, hts⟩ (c_X_refuse_5 l D cI cJ cZ cP cS po x0 xs j0 k0 w0 rd mv xr (im) (lf) fr hy0 hy1 hy2 hy3 H.size) (cwV 1 hts gX7_pullOf_X7_refuse rfl rfl rfl ⟨rfl, dh_X7_refuse⟩ ⟨Nat.le_of_ble_eq_true rfl, Nat.le_of_ble_eq_true rfl⟩) hK hN (hZ.kept hS) hP hD hS hA [0, 1] [2, 3] rfl rfl (by decide) (by decide) (by decide) (va_recv (q := (RX7, TX7, 9)) hK hP (ci := 7) (q0 := 0) rfl rfl) rfl hl.1 rfl (Nat.le_of_ble_eq_true rfl) dX7_pullOf_15 ⟨Nat.le_of_ble_eq_true rfl, Nat.le_of_ble_eq_true rfl⟩ (fun r_7 u_8 H locs hr_7 hP hD hS => ?_)
    obtain ⟨q_9, rfl⟩ : ∃ z, z = u_8 := ⟨_, rfl⟩
    have h9R := zRe (ws' := [(j0, .inr (0, [.ref z0, .ref jp, .ref jc, .int cn, .int de, .int tr, .int se, .int hu, .int sd])), (jp, .inl (cP, 8, .inr (.inr (.inr (.inr fp))))), (x0, .inr (7, [.ref xs, .ref j0, .ref k0, .ref w0, .ref rd, .ref mv, .ref xr, .int im, .int lf])), (xr, .inl (cI, 8, .inl q_9))]) hP hD rfl
    clear hP hD
    obtain ⟨hP, hD⟩ := h9R
    obtain rfl := hr_7
    exact W.iret (v := (-5)) hx hb hr (fun t ht hW => ⟨⟨(-5), q_9, rfl, ⟨(show ((p_.toInt < 0 ∨ cn.toInt ≤ p_.toInt) ∧ ((-5) : Int32).toInt = -5) ∨ ((0 ≤ p_.toInt ∧ p_.toInt < cn.toInt) ∧ (((w.toInt < 0 ∨ 4 < w.toInt) ∧ ((-5) : Int32).toInt = -5) ∨ ((0 ≤ w.toInt ∧ w.toInt ≤ 4) ∧ ((-5) : Int32).toInt = (if w.toInt = 0 then (kf p_.toNatClampNeg).toInt else if w.toInt = 1 then (af p_.toNatClampNeg).toInt else if w.toInt = 2 then (tf p_.toNatClampNeg).toInt else if w.toInt = 3 then zStp (kf p_.toNatClampNeg).toInt (af p_.toNatClampNeg).toInt else if 1 ≤ de.toInt ∧ (tf p_.toNatClampNeg).toInt ≤ se.toInt then 1 else 0)))) from by (have k9 : ((-5) : Int32).toInt = -5 := (by decide); exact Or.inl ⟨by omega, by omega⟩)), trivial⟩, zRet ht hP hD [2, 3, 0, 1] (by decide) rfl⟩, hS.F ht⟩) hS.2.2 dX7_pullOf_18
  · refine lv_astore_nN (lv' := [(3, .null), (0, .ref x0), (1, .int p_), (2, .int w)]) hx hb dX7_pullOf_8 rfl hl (by decide) rfl (fun ls hl => ?_)
    refine lv_aload_nN hx hb dX7_pullOf_9 rfl (lv_at hl 0 rfl) ?_
    refine lv_ifnonnullN hx hb dX7_pullOf_10 ?_
    refine lv_aload_n hx hb dX7_pullOf_13 rfl (lv_at hl 1 rfl) ?_
    refine lv_iconst (v := 5) hx hb dX7_pullOf_14 (by decide) ?_
    skip
    refine zw_V (As := [.int 5]) (rest := []) (wr := [(j0, .inr (0, [.ref z0, .ref jp, .ref jc, .int cn, .int de, .int tr, .int se, .int hu, .int sd])), (jp, .inl (cP, 8, .inr (.inr (.inr (.inr fp)))))]) ⟨hx, hb, hml, hown, hts⟩ (c_X_refuse_5 l D cI cJ cZ cP cS po x0 xs j0 k0 w0 rd mv xr (im) (lf) fr hy0 hy1 hy2 hy3 H.size) (cwV 1 hts gX7_pullOf_X7_refuse rfl rfl rfl ⟨rfl, dh_X7_refuse⟩ ⟨Nat.le_of_ble_eq_true rfl, Nat.le_of_ble_eq_true rfl⟩) hK hN (hZ.kept hS) hP hD hS hA [0, 1] [2, 3] rfl rfl (by decide) (by decide) (by decide) (va_recv (q := (RX7, TX7, 9)) hK hP (ci := 7) (q0 := 0) rfl rfl) rfl hl.1 rfl (Nat.le_of_ble_eq_true rfl) dX7_pullOf_15 ⟨Nat.le_of_ble_eq_true rfl, Nat.le_of_ble_eq_true rfl⟩ (fun r_10 u_11 H locs hr_10 hP hD hS => ?_)
    obtain ⟨q_12, rfl⟩ : ∃ z, z = u_11 := ⟨_, rfl⟩
    have h9R := zRe (ws' := [(j0, .inr (0, [.ref z0, .ref jp, .ref jc, .int cn, .int de, .int tr, .int se, .int hu, .int sd])), (jp, .inl (cP, 8, .inr (.inr (.inr (.inr fp))))), (x0, .inr (7, [.ref xs, .ref j0, .ref k0, .ref w0, .ref rd, .ref mv, .ref xr, .int im, .int lf])), (xr, .inl (cI, 8, .inl q_12))]) hP hD rfl
    clear hP hD
    obtain ⟨hP, hD⟩ := h9R
    obtain rfl := hr_10
    exact W.iret (v := (-5)) hx hb hr (fun t ht hW => ⟨⟨(-5), q_12, rfl, ⟨(show ((p_.toInt < 0 ∨ cn.toInt ≤ p_.toInt) ∧ ((-5) : Int32).toInt = -5) ∨ ((0 ≤ p_.toInt ∧ p_.toInt < cn.toInt) ∧ (((w.toInt < 0 ∨ 4 < w.toInt) ∧ ((-5) : Int32).toInt = -5) ∨ ((0 ≤ w.toInt ∧ w.toInt ≤ 4) ∧ ((-5) : Int32).toInt = (if w.toInt = 0 then (kf p_.toNatClampNeg).toInt else if w.toInt = 1 then (af p_.toNatClampNeg).toInt else if w.toInt = 2 then (tf p_.toNatClampNeg).toInt else if w.toInt = 3 then zStp (kf p_.toNatClampNeg).toInt (af p_.toNatClampNeg).toInt else if 1 ≤ de.toInt ∧ (tf p_.toNatClampNeg).toInt ≤ se.toInt then 1 else 0)))) from by (have k9 : ((-5) : Int32).toInt = -5 := (by decide); exact Or.inl ⟨by omega, by omega⟩)), trivial⟩, zRet ht hP hD [2, 3, 0, 1] (by decide) rfl⟩, hS.F ht⟩) hS.2.2 dX7_pullOf_18
  · refine W.eq (g2 := F0 m 8 ls (.ref u_6 :: [])) rfl ?_
    obtain ⟨hku_6, hau_6, htu_6⟩ := zPu_pr (hZ.kept hS) huu_6
    refine lv_astore_n (lv' := [(3, .ref u_6), (0, .ref x0), (1, .int p_), (2, .int w)]) hx hb dX7_pullOf_8 rfl hl (by decide) rfl (fun ls hl => ?_)
    refine lv_aload_n hx hb dX7_pullOf_9 rfl (lv_at hl 0 rfl) ?_
    refine lv_ifnonnull (tgt := 19) hx hb dX7_pullOf_10 (by decide) ?_
    refine lv_iload_n hx hb dX7_pullOf_19 rfl (lv_at hl 3 rfl) ?_
    by_cases hsp : w.toInt < 0 ∨ 4 < w.toInt
    · refine lv_tableOut (tgt := 93) hx hb dX7_pullOf_20 hsp (by decide) ?_
      refine lv_aload_n hx hb dX7_pullOf_93 rfl (lv_at hl 1 rfl) ?_
      refine lv_iconst (v := 5) hx hb dX7_pullOf_94 (by decide) ?_
      skip
      refine zw_V (As := [.int 5]) (rest := []) (wr := [(j0, .inr (0, [.ref z0, .ref jp, .ref jc, .int cn, .int de, .int tr, .int se, .int hu, .int sd])), (jp, .inl (cP, 8, .inr (.inr (.inr (.inr fp)))))]) ⟨hx, hb, hml, hown, hts⟩ (c_X_refuse_5 l D cI cJ cZ cP cS po x0 xs j0 k0 w0 rd mv xr (im) (lf) fr hy0 hy1 hy2 hy3 H.size) (cwV 1 hts gX7_pullOf_X7_refuse rfl rfl rfl ⟨rfl, dh_X7_refuse⟩ ⟨Nat.le_of_ble_eq_true rfl, Nat.le_of_ble_eq_true rfl⟩) hK hN (hZ.kept hS) hP hD hS hA [0, 1] [2, 3] rfl rfl (by decide) (by decide) (by decide) (va_recv (q := (RX7, TX7, 9)) hK hP (ci := 7) (q0 := 0) rfl rfl) rfl hl.1 rfl (Nat.le_of_ble_eq_true rfl) dX7_pullOf_95 ⟨Nat.le_of_ble_eq_true rfl, Nat.le_of_ble_eq_true rfl⟩ (fun r_13 u_14 H locs hr_13 hP hD hS => ?_)
      obtain ⟨q_15, rfl⟩ : ∃ z, z = u_14 := ⟨_, rfl⟩
      have h9R := zRe (ws' := [(j0, .inr (0, [.ref z0, .ref jp, .ref jc, .int cn, .int de, .int tr, .int se, .int hu, .int sd])), (jp, .inl (cP, 8, .inr (.inr (.inr (.inr fp))))), (x0, .inr (7, [.ref xs, .ref j0, .ref k0, .ref w0, .ref rd, .ref mv, .ref xr, .int im, .int lf])), (xr, .inl (cI, 8, .inl q_15))]) hP hD rfl
      clear hP hD
      obtain ⟨hP, hD⟩ := h9R
      obtain rfl := hr_13
      exact W.iret (v := (-5)) hx hb hr (fun t ht hW => ⟨⟨(-5), q_15, rfl, ⟨(show ((p_.toInt < 0 ∨ cn.toInt ≤ p_.toInt) ∧ ((-5) : Int32).toInt = -5) ∨ ((0 ≤ p_.toInt ∧ p_.toInt < cn.toInt) ∧ (((w.toInt < 0 ∨ 4 < w.toInt) ∧ ((-5) : Int32).toInt = -5) ∨ ((0 ≤ w.toInt ∧ w.toInt ≤ 4) ∧ ((-5) : Int32).toInt = (if w.toInt = 0 then (kf p_.toNatClampNeg).toInt else if w.toInt = 1 then (af p_.toNatClampNeg).toInt else if w.toInt = 2 then (tf p_.toNatClampNeg).toInt else if w.toInt = 3 then zStp (kf p_.toNatClampNeg).toInt (af p_.toNatClampNeg).toInt else if 1 ≤ de.toInt ∧ (tf p_.toNatClampNeg).toInt ≤ se.toInt then 1 else 0)))) from by (have k9 : ((-5) : Int32).toInt = -5 := (by decide); obtain ⟨⟨y1, y2, y3⟩, y4, y5⟩ := hkku_6; first | exact Or.inr ⟨by omega, Or.inl ⟨by omega, by omega⟩⟩ | (refine Or.inr ⟨by omega, Or.inr ⟨by omega, ?_⟩⟩; rw [← y1, ← y2, ← y3]; (repeat (first | rw [if_pos (by omega)] | rw [if_neg (by omega)])); first | done | omega | rfl | (rw [if_pos ⟨by omega, by omega⟩]; omega) | (rw [if_neg (fun z => by (have z1 := z.1; have z2 := z.2; omega))]; omega)))), trivial⟩, zRet ht hP hD [2, 3, 0, 1] (by decide) rfl⟩, hS.F ht⟩) hS.2.2 dX7_pullOf_98
    · have hsp : w = 0 ∨ w = 1 ∨ w = 2 ∨ w = 3 ∨ w = 4 := by
        rcases (show w.toInt = 0 ∨ w.toInt = 1 ∨ w.toInt = 2 ∨ w.toInt = 3 ∨ w.toInt = 4 by omega) with h9 | h9 | h9 | h9 | h9
        · refine Or.inl ?_; exact zf_val h9 (by decide)
        · refine Or.inr (Or.inl ?_); exact zf_val h9 (by decide)
        · refine Or.inr (Or.inr (Or.inl ?_)); exact zf_val h9 (by decide)
        · refine Or.inr (Or.inr (Or.inr (Or.inl ?_))); exact zf_val h9 (by decide)
        · refine Or.inr (Or.inr (Or.inr (Or.inr (?_)))); exact zf_val h9 (by decide)
      rcases hsp with rfl | rfl | rfl | rfl | rfl
      · have kc0 : (0 : Int32).toInt = 0 := by decide
        refine lv_tableIn (tgt := 56) hx hb dX7_pullOf_20 (by decide) (by decide) rfl (by decide) ?_
        refine lv_aload_n hx hb dX7_pullOf_56 rfl (lv_at hl 0 rfl) ?_
        refine va_get (D := D) (ci := 2) (v := .int kiu_6) (C := RX2) (T := TX2) (N := 3) hx hb hts hi_X7_pullOf_2 hown hK (zPu_P (hZ.kept hS) huu_6) 0 rfl rfl 0 (by decide) (hts (.fieldLink RX7 130 "TheLiningsInIt$Pull" "kind" "I") (List.mem_of_getElem? (i := 2) rfl)) (fun _ h9 => h9) rfl dX7_pullOf_57 ?_
        exact W.iret (v := kiu_6) hx hb hr (fun t ht hW => ⟨⟨kiu_6, fr, rfl, ⟨(show ((p_.toInt < 0 ∨ cn.toInt ≤ p_.toInt) ∧ (kiu_6 : Int32).toInt = -5) ∨ ((0 ≤ p_.toInt ∧ p_.toInt < cn.toInt) ∧ ((((0 : Int32).toInt < 0 ∨ 4 < (0 : Int32).toInt) ∧ (kiu_6 : Int32).toInt = -5) ∨ ((0 ≤ (0 : Int32).toInt ∧ (0 : Int32).toInt ≤ 4) ∧ (kiu_6 : Int32).toInt = (if (0 : Int32).toInt = 0 then (kf p_.toNatClampNeg).toInt else if (0 : Int32).toInt = 1 then (af p_.toNatClampNeg).toInt else if (0 : Int32).toInt = 2 then (tf p_.toNatClampNeg).toInt else if (0 : Int32).toInt = 3 then zStp (kf p_.toNatClampNeg).toInt (af p_.toNatClampNeg).toInt else if 1 ≤ de.toInt ∧ (tf p_.toNatClampNeg).toInt ≤ se.toInt then 1 else 0)))) from by (obtain ⟨⟨y1, y2, y3⟩, y4, y5⟩ := hkku_6; first | exact Or.inr ⟨by omega, Or.inl ⟨by omega, by omega⟩⟩ | (refine Or.inr ⟨by omega, Or.inr ⟨by omega, ?_⟩⟩; rw [← y1, ← y2, ← y3]; (repeat (first | rw [if_pos (by omega)] | rw [if_neg (by omega)])); first | done | omega | rfl | (rw [if_pos ⟨by omega, by omega⟩]; omega) | (rw [if_neg (fun z => by (have z1 := z.1; have z2 := z.2; omega))]; omega)))), trivial⟩, zRet ht hP hD [0, 1, 2, 3] (by decide) rfl⟩, hS.F ht⟩) hS.2.2 dX7_pullOf_60
      · have kc1 : (1 : Int32).toInt = 1 := by decide
        refine lv_tableIn (tgt := 61) hx hb dX7_pullOf_20 (by decide) (by decide) rfl (by decide) ?_
        refine lv_aload_n hx hb dX7_pullOf_61 rfl (lv_at hl 0 rfl) ?_
        refine va_get (D := D) (ci := 2) (v := .int au_6) (C := RX2) (T := TX2) (N := 3) hx hb hts hi_X7_pullOf_2 hown hK (zPu_P (hZ.kept hS) huu_6) 0 rfl rfl 1 (by decide) (hts (.fieldLink RX7 133 "TheLiningsInIt$Pull" "a" "I") (List.mem_of_getElem? (i := 3) rfl)) (fun _ h9 => h9) rfl dX7_pullOf_62 ?_
        exact W.iret (v := au_6) hx hb hr (fun t ht hW => ⟨⟨au_6, fr, rfl, ⟨(show ((p_.toInt < 0 ∨ cn.toInt ≤ p_.toInt) ∧ (au_6 : Int32).toInt = -5) ∨ ((0 ≤ p_.toInt ∧ p_.toInt < cn.toInt) ∧ ((((1 : Int32).toInt < 0 ∨ 4 < (1 : Int32).toInt) ∧ (au_6 : Int32).toInt = -5) ∨ ((0 ≤ (1 : Int32).toInt ∧ (1 : Int32).toInt ≤ 4) ∧ (au_6 : Int32).toInt = (if (1 : Int32).toInt = 0 then (kf p_.toNatClampNeg).toInt else if (1 : Int32).toInt = 1 then (af p_.toNatClampNeg).toInt else if (1 : Int32).toInt = 2 then (tf p_.toNatClampNeg).toInt else if (1 : Int32).toInt = 3 then zStp (kf p_.toNatClampNeg).toInt (af p_.toNatClampNeg).toInt else if 1 ≤ de.toInt ∧ (tf p_.toNatClampNeg).toInt ≤ se.toInt then 1 else 0)))) from by (obtain ⟨⟨y1, y2, y3⟩, y4, y5⟩ := hkku_6; first | exact Or.inr ⟨by omega, Or.inl ⟨by omega, by omega⟩⟩ | (refine Or.inr ⟨by omega, Or.inr ⟨by omega, ?_⟩⟩; rw [← y1, ← y2, ← y3]; (repeat (first | rw [if_pos (by omega)] | rw [if_neg (by omega)])); first | done | omega | rfl | (rw [if_pos ⟨by omega, by omega⟩]; omega) | (rw [if_neg (fun z => by (have z1 := z.1; have z2 := z.2; omega))]; omega)))), trivial⟩, zRet ht hP hD [0, 1, 2, 3] (by decide) rfl⟩, hS.F ht⟩) hS.2.2 dX7_pullOf_65
      · have kc2 : (2 : Int32).toInt = 2 := by decide
        refine lv_tableIn (tgt := 66) hx hb dX7_pullOf_20 (by decide) (by decide) rfl (by decide) ?_
        refine lv_aload_n hx hb dX7_pullOf_66 rfl (lv_at hl 0 rfl) ?_
        refine va_get (D := D) (ci := 2) (v := .int tu_6) (C := RX2) (T := TX2) (N := 3) hx hb hts hi_X7_pullOf_2 hown hK (zPu_P (hZ.kept hS) huu_6) 0 rfl rfl 2 (by decide) (hts (.fieldLink RX7 110 "TheLiningsInIt$Pull" "takes" "I") (List.mem_of_getElem? (i := 4) rfl)) (fun _ h9 => h9) rfl dX7_pullOf_67 ?_
        exact W.iret (v := tu_6) hx hb hr (fun t ht hW => ⟨⟨tu_6, fr, rfl, ⟨(show ((p_.toInt < 0 ∨ cn.toInt ≤ p_.toInt) ∧ (tu_6 : Int32).toInt = -5) ∨ ((0 ≤ p_.toInt ∧ p_.toInt < cn.toInt) ∧ ((((2 : Int32).toInt < 0 ∨ 4 < (2 : Int32).toInt) ∧ (tu_6 : Int32).toInt = -5) ∨ ((0 ≤ (2 : Int32).toInt ∧ (2 : Int32).toInt ≤ 4) ∧ (tu_6 : Int32).toInt = (if (2 : Int32).toInt = 0 then (kf p_.toNatClampNeg).toInt else if (2 : Int32).toInt = 1 then (af p_.toNatClampNeg).toInt else if (2 : Int32).toInt = 2 then (tf p_.toNatClampNeg).toInt else if (2 : Int32).toInt = 3 then zStp (kf p_.toNatClampNeg).toInt (af p_.toNatClampNeg).toInt else if 1 ≤ de.toInt ∧ (tf p_.toNatClampNeg).toInt ≤ se.toInt then 1 else 0)))) from by (obtain ⟨⟨y1, y2, y3⟩, y4, y5⟩ := hkku_6; first | exact Or.inr ⟨by omega, Or.inl ⟨by omega, by omega⟩⟩ | (refine Or.inr ⟨by omega, Or.inr ⟨by omega, ?_⟩⟩; rw [← y1, ← y2, ← y3]; (repeat (first | rw [if_pos (by omega)] | rw [if_neg (by omega)])); first | done | omega | rfl | (rw [if_pos ⟨by omega, by omega⟩]; omega) | (rw [if_neg (fun z => by (have z1 := z.1; have z2 := z.2; omega))]; omega)))), trivial⟩, zRet ht hP hD [0, 1, 2, 3] (by decide) rfl⟩, hS.F ht⟩) hS.2.2 dX7_pullOf_70
      · have kc3 : (3 : Int32).toInt = 3 := by decide
        refine lv_tableIn (tgt := 71) hx hb dX7_pullOf_20 (by decide) (by decide) rfl (by decide) ?_
        refine lv_aload_n hx hb dX7_pullOf_71 rfl (lv_at hl 0 rfl) ?_
        refine zc_V (As := []) (rest := []) ⟨hx, hb, hml, hown, hts⟩ (c_F_Pull_step l D cI cJ cZ cP cS po u_6 (kiu_6) (au_6) (tu_6) huu_6 ⟨by omega, by omega, by omega, by omega⟩) (cwV 0 hts gX7_pullOf_X2_step rfl rfl rfl ⟨rfl, dh_X2_step⟩ ⟨Nat.le_of_ble_eq_true rfl, Nat.le_of_ble_eq_true rfl⟩) hK hN (hZ.kept hS) hP zP_nil (va_recv (q := (RX2, TX2, 3)) hK (zPu_P (hZ.kept hS) huu_6) (ci := 2) (q0 := 0) rfl rfl) rfl hl.1 rfl (Nat.le_of_ble_eq_true rfl) dX7_pullOf_72 ⟨Nat.le_of_ble_eq_true rfl, Nat.le_of_ble_eq_true rfl⟩ (fun r_16 hr_16 => ?_)
        obtain ⟨g_17, g_18, hsr_16_0⟩ := hr_16
        exact W.iret (v := r_16) hx hb hr (fun t ht hW => ⟨⟨r_16, fr, rfl, ⟨(show ((p_.toInt < 0 ∨ cn.toInt ≤ p_.toInt) ∧ (r_16 : Int32).toInt = -5) ∨ ((0 ≤ p_.toInt ∧ p_.toInt < cn.toInt) ∧ ((((3 : Int32).toInt < 0 ∨ 4 < (3 : Int32).toInt) ∧ (r_16 : Int32).toInt = -5) ∨ ((0 ≤ (3 : Int32).toInt ∧ (3 : Int32).toInt ≤ 4) ∧ (r_16 : Int32).toInt = (if (3 : Int32).toInt = 0 then (kf p_.toNatClampNeg).toInt else if (3 : Int32).toInt = 1 then (af p_.toNatClampNeg).toInt else if (3 : Int32).toInt = 2 then (tf p_.toNatClampNeg).toInt else if (3 : Int32).toInt = 3 then zStp (kf p_.toNatClampNeg).toInt (af p_.toNatClampNeg).toInt else if 1 ≤ de.toInt ∧ (tf p_.toNatClampNeg).toInt ≤ se.toInt then 1 else 0)))) from by (obtain ⟨⟨y1, y2, y3⟩, y4, y5⟩ := hkku_6; have zs := hsr_16_0; first | exact Or.inr ⟨by omega, Or.inl ⟨by omega, by omega⟩⟩ | (refine Or.inr ⟨by omega, Or.inr ⟨by omega, ?_⟩⟩; rw [← y1, ← y2, ← y3]; (repeat (first | rw [if_pos (by omega)] | rw [if_neg (by omega)])); first | done | omega | rfl | (rw [if_pos ⟨by omega, by omega⟩]; omega) | (rw [if_neg (fun z => by (have z1 := z.1; have z2 := z.2; omega))]; omega)))), trivial⟩, zRet ht hP hD [0, 1, 2, 3] (by decide) rfl⟩, hS.F ht⟩) hS.2.2 dX7_pullOf_75
      · have kc4 : (4 : Int32).toInt = 4 := by decide
        refine lv_tableIn (tgt := 76) hx hb dX7_pullOf_20 (by decide) (by decide) rfl (by decide) ?_
        refine lv_aload_n hx hb dX7_pullOf_76 rfl (lv_at hl 1 rfl) ?_
        refine va_get (D := D) (ci := 7) (v := .ref j0) (C := RX7) (T := TX7) (N := 9) hx hb hts hi_X7_pullOf_7 hown hK hP 0 rfl rfl 1 (by decide) (hts (.fieldLink RX7 18 "TheLiningsInIt" "now" "LTheLiningsInIt$Jacket;") (List.mem_of_getElem? (i := 1) rfl)) (fun _ h9 => h9) rfl dX7_pullOf_77 ?_
        refine lv_aload_n hx hb dX7_pullOf_80 rfl (lv_at hl 0 rfl) ?_
        refine zc_V (As := [.ref u_6]) (rest := []) ⟨hx, hb, hml, hown, hts⟩ (c_J_mayBe l D cI cJ cZ cP cS po j0 jp jc z0 0 0 (cn) (de) (tr) (se) (hu) (sd) u_6 (kiu_6) (au_6) (tu_6) huu_6 ⟨by omega, by omega, by omega, by omega⟩ hy4 hy5 hy6 hy7 hy8 hy9) (cwV 1 hts gX7_pullOf_X0_mayBe rfl rfl rfl ⟨rfl, dh_X0_mayBe⟩ ⟨Nat.le_of_ble_eq_true rfl, Nat.le_of_ble_eq_true rfl⟩) hK hN (hZ.kept hS) hP (hP.sub [2] rfl) (va_recv (q := (RX0, TX0, 9)) hK hP (ci := 0) (q0 := 2) rfl rfl) rfl hl.1 rfl (Nat.le_of_ble_eq_true rfl) dX7_pullOf_81 ⟨Nat.le_of_ble_eq_true rfl, Nat.le_of_ble_eq_true rfl⟩ (fun r_19 hr_19 => ?_)
        rcases hr_19 with ⟨rfl, g_20⟩ | ⟨rfl, g_21, g_22⟩ | ⟨rfl, g_23, g_24⟩
        · refine lv_if_eq (tgt := 91) hx hb dX7_pullOf_84 (by decide) (fun c_25 => ?_) (fun c_25 => ?_)
          · refine lv_iconst (v := 0) hx hb dX7_pullOf_91 (by decide) ?_
            exact W.iret (v := 0) hx hb hr (fun t ht hW => ⟨⟨0, fr, rfl, ⟨(show ((p_.toInt < 0 ∨ cn.toInt ≤ p_.toInt) ∧ (0 : Int32).toInt = -5) ∨ ((0 ≤ p_.toInt ∧ p_.toInt < cn.toInt) ∧ ((((4 : Int32).toInt < 0 ∨ 4 < (4 : Int32).toInt) ∧ (0 : Int32).toInt = -5) ∨ ((0 ≤ (4 : Int32).toInt ∧ (4 : Int32).toInt ≤ 4) ∧ (0 : Int32).toInt = (if (4 : Int32).toInt = 0 then (kf p_.toNatClampNeg).toInt else if (4 : Int32).toInt = 1 then (af p_.toNatClampNeg).toInt else if (4 : Int32).toInt = 2 then (tf p_.toNatClampNeg).toInt else if (4 : Int32).toInt = 3 then zStp (kf p_.toNatClampNeg).toInt (af p_.toNatClampNeg).toInt else if 1 ≤ de.toInt ∧ (tf p_.toNatClampNeg).toInt ≤ se.toInt then 1 else 0)))) from by (have k9 : (0 : Int32).toInt = 0 := (by decide); obtain ⟨⟨y1, y2, y3⟩, y4, y5⟩ := hkku_6; first | exact Or.inr ⟨by omega, Or.inl ⟨by omega, by omega⟩⟩ | (refine Or.inr ⟨by omega, Or.inr ⟨by omega, ?_⟩⟩; rw [← y1, ← y2, ← y3]; (repeat (first | rw [if_pos (by omega)] | rw [if_neg (by omega)])); first | done | omega | rfl | (rw [if_pos ⟨by omega, by omega⟩]; omega) | (rw [if_neg (fun z => by (have z1 := z.1; have z2 := z.2; omega))]; omega)))), trivial⟩, zRet ht hP hD [0, 1, 2, 3] (by decide) rfl⟩, hS.F ht⟩) hS.2.2 dX7_pullOf_92
          · exact absurd c_25 (by decide)
        · refine lv_if_eq (tgt := 91) hx hb dX7_pullOf_84 (by decide) (fun c_26 => ?_) (fun c_26 => ?_)
          · refine lv_iconst (v := 0) hx hb dX7_pullOf_91 (by decide) ?_
            exact W.iret (v := 0) hx hb hr (fun t ht hW => ⟨⟨0, fr, rfl, ⟨(show ((p_.toInt < 0 ∨ cn.toInt ≤ p_.toInt) ∧ (0 : Int32).toInt = -5) ∨ ((0 ≤ p_.toInt ∧ p_.toInt < cn.toInt) ∧ ((((4 : Int32).toInt < 0 ∨ 4 < (4 : Int32).toInt) ∧ (0 : Int32).toInt = -5) ∨ ((0 ≤ (4 : Int32).toInt ∧ (4 : Int32).toInt ≤ 4) ∧ (0 : Int32).toInt = (if (4 : Int32).toInt = 0 then (kf p_.toNatClampNeg).toInt else if (4 : Int32).toInt = 1 then (af p_.toNatClampNeg).toInt else if (4 : Int32).toInt = 2 then (tf p_.toNatClampNeg).toInt else if (4 : Int32).toInt = 3 then zStp (kf p_.toNatClampNeg).toInt (af p_.toNatClampNeg).toInt else if 1 ≤ de.toInt ∧ (tf p_.toNatClampNeg).toInt ≤ se.toInt then 1 else 0)))) from by (have k9 : (0 : Int32).toInt = 0 := (by decide); obtain ⟨⟨y1, y2, y3⟩, y4, y5⟩ := hkku_6; first | exact Or.inr ⟨by omega, Or.inl ⟨by omega, by omega⟩⟩ | (refine Or.inr ⟨by omega, Or.inr ⟨by omega, ?_⟩⟩; rw [← y1, ← y2, ← y3]; (repeat (first | rw [if_pos (by omega)] | rw [if_neg (by omega)])); first | done | omega | rfl | (rw [if_pos ⟨by omega, by omega⟩]; omega) | (rw [if_neg (fun z => by (have z1 := z.1; have z2 := z.2; omega))]; omega)))), trivial⟩, zRet ht hP hD [0, 1, 2, 3] (by decide) rfl⟩, hS.F ht⟩) hS.2.2 dX7_pullOf_92
          · exact absurd c_26 (by decide)
        · refine lv_if_eq (tgt := 91) hx hb dX7_pullOf_84 (by decide) (fun c_27 => ?_) (fun c_27 => ?_)
          · exact absurd c_27 (by decide)
          · refine lv_iconst (v := 1) hx hb dX7_pullOf_87 (by decide) ?_
            refine lv_goto (tgt := 92) hx hb dX7_pullOf_88 (by decide) ?_
            exact W.iret (v := 1) hx hb hr (fun t ht hW => ⟨⟨1, fr, rfl, ⟨(show ((p_.toInt < 0 ∨ cn.toInt ≤ p_.toInt) ∧ (1 : Int32).toInt = -5) ∨ ((0 ≤ p_.toInt ∧ p_.toInt < cn.toInt) ∧ ((((4 : Int32).toInt < 0 ∨ 4 < (4 : Int32).toInt) ∧ (1 : Int32).toInt = -5) ∨ ((0 ≤ (4 : Int32).toInt ∧ (4 : Int32).toInt ≤ 4) ∧ (1 : Int32).toInt = (if (4 : Int32).toInt = 0 then (kf p_.toNatClampNeg).toInt else if (4 : Int32).toInt = 1 then (af p_.toNatClampNeg).toInt else if (4 : Int32).toInt = 2 then (tf p_.toNatClampNeg).toInt else if (4 : Int32).toInt = 3 then zStp (kf p_.toNatClampNeg).toInt (af p_.toNatClampNeg).toInt else if 1 ≤ de.toInt ∧ (tf p_.toNatClampNeg).toInt ≤ se.toInt then 1 else 0)))) from by (have k9 : (1 : Int32).toInt = 1 := (by decide); obtain ⟨⟨y1, y2, y3⟩, y4, y5⟩ := hkku_6; first | exact Or.inr ⟨by omega, Or.inl ⟨by omega, by omega⟩⟩ | (refine Or.inr ⟨by omega, Or.inr ⟨by omega, ?_⟩⟩; rw [← y1, ← y2, ← y3]; (repeat (first | rw [if_pos (by omega)] | rw [if_neg (by omega)])); first | done | omega | rfl | (rw [if_pos ⟨by omega, by omega⟩]; omega) | (rw [if_neg (fun z => by (have z1 := z.1; have z2 := z.2; omega))]; omega)))), trivial⟩, zRet ht hP hD [0, 1, 2, 3] (by decide) rfl⟩, hS.F ht⟩) hS.2.2 dX7_pullOf_92
set_option maxHeartbeats 4000000 in
set_option maxRecDepth 100000 in
theorem c_F_X_winter (l : Launch) (D : va_G) (cI cJ cZ cP cS : ClassId) (po : zPool) (x0 xs j0 k0 w0 rd mv xr : Nat) (im lf : Int32) (fr : Nat → Int32) (j0 jp jc z0 zl zs : Nat) (cn de tr se hu sd : Int32) (sz at_ gp : Int32) (wk wl wc wp : Nat) (wn wh wg : Int32) (fq : Nat → Option Nat) (fk fl fc fjc : Nat → Int32) (fp : Nat → Option Nat) (kf af tf : Nat → Int32) (zfl zfs : Nat → Int32) (n : Int32) (hy0 : 0 ≤ im.toInt) (hy1 : im.toInt ≤ 1) (hy2 : (-1) ≤ lf.toInt) (hy3 : lf.toInt ≤ 160) (hy4 : 0 ≤ cn.toInt) (hy5 : cn.toInt ≤ 8) (hy6 : 0 ≤ de.toInt) (hy7 : de.toInt ≤ 24) (hy8 : 0 ≤ hu.toInt) (hy9 : hu.toInt ≤ 9) (hy10 : 4 ≤ sz.toInt) (hy11 : sz.toInt ≤ 40) (hy12 : 0 ≤ at_.toInt) (hy13 : at_.toInt ≤ 40) (hy14 : 1 ≤ gp.toInt) (hy15 : gp.toInt ≤ 9) (hy16 : 0 ≤ wn.toInt) (hy17 : wn.toInt ≤ 8) (hy18 : 0 ≤ wh.toInt) (hy19 : wh.toInt ≤ 9) (hy20 : 0 ≤ wg.toInt) (hy21 : wg.toInt ≤ 60) (hwq : zWP po fq) (hjp : zJP po fp cn kf af tf) (hy24 : 0 ≤ se.toInt) (hy25 : se.toInt ≤ 300) (hy26 : at_.toInt ≤ sz.toInt) (hp_fc : zRg fc (0) 99) (hp_fjc : zRg fjc (0) 99) (hp_zfl : zRg zfl (0) 1) (hp_zfs : zRg zfs (0) 9) (hpz : Nat) : Met l yX7_winter wsX7_winter ({ frames := 8, cells := 0, slots := 0, locals := 199 }) (va_Pc [.ref x0, .int n] (zW D (zKT cI cJ cZ cP cS) po [(x0, .inr (7, [.ref xs, .ref j0, .ref k0, .ref w0, .ref rd, .ref mv, .ref xr, .int im, .int lf])), (xr, .inl (cI, 8, .inl fr)), (j0, .inr (0, [.ref z0, .ref jp, .ref jc, .int cn, .int de, .int tr, .int se, .int hu, .int sd])), (z0, .inr (6, [.ref zl, .ref zs, .int sz, .int at_, .int gp])), (w0, .inr (5, [.ref wk, .ref wl, .ref wc, .ref wp, .int wn, .int wh, .int wg])), (wk, .inl (cI, 125, .inl fk)), (wl, .inl (cI, 125, .inl fl)), (wc, .inl (cI, 3, .inl fc)), (wp, .inl (cP, 8, .inr (.inr (.inr (.inr fq))))), (jp, .inl (cP, 8, .inr (.inr (.inr (.inr fp))))), (jc, .inl (cI, 3, .inl fjc)), (zl, .inl (cZ, 40, .inl zfl)), (zs, .inl (cI, 40, .inl zfs))] hpz)) (va_Qi (fun (r : Int32) (u : (Int32) × (Int32) × (Int32) × (Nat → Int32) × (Nat → Int32) × (Nat → Int32) × (Nat → Option Nat) × (Int32) × (Int32) × (Int32) × (Int32) × (Int32) × (Nat → Int32)) => (0 ≤ u.1.toInt ∧ u.1.toInt ≤ 8) ∧ (0 ≤ u.2.1.toInt ∧ u.2.1.toInt ≤ 9) ∧ (0 ≤ u.2.2.1.toInt ∧ u.2.2.1.toInt ≤ 60) ∧ zRg u.2.2.2.2.2.1 (0) 99 ∧ zWP po u.2.2.2.2.2.2.1 ∧ (0 ≤ u.2.2.2.2.2.2.2.1.toInt ∧ u.2.2.2.2.2.2.2.1.toInt ≤ 24) ∧ (0 ≤ u.2.2.2.2.2.2.2.2.2.2.2.1.toInt ∧ u.2.2.2.2.2.2.2.2.2.2.2.1.toInt ≤ 40) ∧ (((n.toInt < 1 ∨ 60 < n.toInt) ∧ r.toInt = -6 ∧ u.2.2.2.2.2.2.2.2.2.2.2.1 = at_ ∧ u.2.2.2.2.2.2.2.1 = de ∧ u.2.2.2.2.2.2.2.2.2.1 = se ∧ u.2.2.2.2.2.2.2.2.1 = tr ∧ u.2.2.2.2.2.2.2.2.2.2.1 = sd) ∨ ((1 ≤ n.toInt ∧ n.toInt ≤ 60) ∧ zWi zfl zfs gp.toInt sz.toInt kf af tf cn.toInt.toNat hu.toInt n.toInt.toNat 0 at_.toInt de.toInt se.toInt tr sd = (r.toInt, u.2.2.2.2.2.2.2.2.2.2.2.1.toInt, u.2.2.2.2.2.2.2.1.toInt, u.2.2.2.2.2.2.2.2.2.1.toInt, u.2.2.2.2.2.2.2.2.1, u.2.2.2.2.2.2.2.2.2.2.1))) ∧ (u.2.2.2.2.2.2.2.2.2.2.2.1.toInt ≤ sz.toInt ∧ 0 ≤ u.2.2.2.2.2.2.2.2.2.1.toInt ∧ u.2.2.2.2.2.2.2.2.2.1.toInt ≤ 300) ∧ (True)) (zB D [(x0, .inr (7, [.ref xs, .ref j0, .ref k0, .ref w0, .ref rd, .ref mv, .ref xr, .int im, .int lf])), (xr, .inl (cI, 8, .inl fr)), (j0, .inr (0, [.ref z0, .ref jp, .ref jc, .int cn, .int de, .int tr, .int se, .int hu, .int sd])), (z0, .inr (6, [.ref zl, .ref zs, .int sz, .int at_, .int gp])), (w0, .inr (5, [.ref wk, .ref wl, .ref wc, .ref wp, .int wn, .int wh, .int wg])), (wk, .inl (cI, 125, .inl fk)), (wl, .inl (cI, 125, .inl fl)), (wc, .inl (cI, 3, .inl fc)), (wp, .inl (cP, 8, .inr (.inr (.inr (.inr fq))))), (jp, .inl (cP, 8, .inr (.inr (.inr (.inr fp))))), (jc, .inl (cI, 3, .inl fjc)), (zl, .inl (cZ, 40, .inl zfl)), (zs, .inl (cI, 40, .inl zfs))] hpz (fun (u : (Int32) × (Int32) × (Int32) × (Nat → Int32) × (Nat → Int32) × (Nat → Int32) × (Nat → Option Nat) × (Int32) × (Int32) × (Int32) × (Int32) × (Int32) × (Nat → Int32)) => [(x0, .inr (7, [.ref xs, .ref j0, .ref k0, .ref w0, .ref rd, .ref mv, .ref xr, .int im, .int lf])), (xr, .inl (cI, 8, .inl u.2.2.2.2.2.2.2.2.2.2.2.2)), (j0, .inr (0, [.ref z0, .ref jp, .ref jc, .int cn, .int u.2.2.2.2.2.2.2.1, .int u.2.2.2.2.2.2.2.2.1, .int u.2.2.2.2.2.2.2.2.2.1, .int hu, .int u.2.2.2.2.2.2.2.2.2.2.1])), (z0, .inr (6, [.ref zl, .ref zs, .int sz, .int u.2.2.2.2.2.2.2.2.2.2.2.1, .int gp])), (w0, .inr (5, [.ref wk, .ref wl, .ref wc, .ref wp, .int u.1, .int u.2.1, .int u.2.2.1])), (wk, .inl (cI, 125, .inl u.2.2.2.1)), (wl, .inl (cI, 125, .inl u.2.2.2.2.1)), (wc, .inl (cI, 3, .inl u.2.2.2.2.2.1)), (wp, .inl (cP, 8, .inr (.inr (.inr (.inr u.2.2.2.2.2.2.1))))), (jp, .inl (cP, 8, .inr (.inr (.inr (.inr fp))))), (jc, .inl (cI, 3, .inl fjc)), (zl, .inl (cZ, 40, .inl zfl)), (zs, .inl (cI, 40, .inl zfs))])) (va_A [(x0, .inr (7, [.ref xs, .ref j0, .ref k0, .ref w0, .ref rd, .ref mv, .ref xr, .int im, .int lf])), (xr, .inl (cI, 8, .inl fr)), (j0, .inr (0, [.ref z0, .ref jp, .ref jc, .int cn, .int de, .int tr, .int se, .int hu, .int sd])), (z0, .inr (6, [.ref zl, .ref zs, .int sz, .int at_, .int gp])), (w0, .inr (5, [.ref wk, .ref wl, .ref wc, .ref wp, .int wn, .int wh, .int wg])), (wk, .inl (cI, 125, .inl fk)), (wl, .inl (cI, 125, .inl fl)), (wc, .inl (cI, 3, .inl fc)), (wp, .inl (cP, 8, .inr (.inr (.inr (.inr fq))))), (jp, .inl (cP, 8, .inr (.inr (.inr (.inr fp))))), (jc, .inl (cI, 3, .inl fjc)), (zl, .inl (cZ, 40, .inl zfl)), (zs, .inl (cI, 40, .inl zfs))] hpz)) 0 0 (va_A [(x0, .inr (7, [.ref xs, .ref j0, .ref k0, .ref w0, .ref rd, .ref mv, .ref xr, .int im, .int lf])), (xr, .inl (cI, 8, .inl fr)), (j0, .inr (0, [.ref z0, .ref jp, .ref jc, .int cn, .int de, .int tr, .int se, .int hu, .int sd])), (z0, .inr (6, [.ref zl, .ref zs, .int sz, .int at_, .int gp])), (w0, .inr (5, [.ref wk, .ref wl, .ref wc, .ref wp, .int wn, .int wh, .int wg])), (wk, .inl (cI, 125, .inl fk)), (wl, .inl (cI, 125, .inl fl)), (wc, .inl (cI, 3, .inl fc)), (wp, .inl (cP, 8, .inr (.inr (.inr (.inr fq))))), (jp, .inl (cP, 8, .inr (.inr (.inr (.inr fp))))), (jc, .inl (cI, 3, .inl fjc)), (zl, .inl (cZ, 40, .inl zfl)), (zs, .inl (cI, 40, .inl zfs))] hpz) := by
  refine Met.ofW (cc := cX7_winter) (maxL := 4) (ret := (some .int)) (by decide) rfl ?_
  intro p e s m args below meth c s₁ B hml hv
  obtain ⟨rfl, hsz, hP, hK, hD0, hN, hZ⟩ := hv
  have hx := B.exec
  have hb := B.bytes
  have hr := B.returns
  have hts := atoms_spec (ws := wsX7_winter) B.pre
  have hown : s.vm.findClass RX7 = some m.cls := findClass_of_methodNamed B.named
  have hlocks := B.notSynchronized
  subst hsz
  have hD := hD0.self (sz := s.heap.size)
  have hA := zA_of hD
  have hl := lv_entry ([.ref x0, .int n]) (n := 4) (Nat.le_of_ble_eq_true rfl)
  rw [lg_entry_eq]
  generalize (lg_sl ([.ref x0, .int n]) ++ List.replicate (4 - (lg_sl ([.ref x0, .int n])).length) Slot.unset).toArray = ls at hl ⊢
  replace hl : lv_has ls 4 [(0, .ref x0), (1, .int n)] := hl
  refine zw_begin hP hD (fun H locs hP1 hS => ?_)
  clear hP
  have hP := hP1
  clear hP1
  refine lv_iload_n hx hb dX7_winter_0 rfl (lv_at hl 1 rfl) ?_
  refine lv_iconst (v := 1) hx hb dX7_winter_1 (by decide) ?_
  refine lv_bipush (v := 60) hx hb dX7_winter_2 (by decide) ?_
  have kc1 : (1 : Int32).toInt = 1 := by decide
  have kc60 : (60 : Int32).toInt = 60 := by decide
  refine zc_S (As := [.int n, .int 1, .int 60]) (rest := []) ⟨hx, hb, hml, hown, hts⟩ (c_within l D cI cJ cZ cP cS po (n) (1) (60) ) (va_cwS 3 hts gX7_winter_X7_within rfl rfl rfl dh_X7_within ⟨Nat.le_of_ble_eq_true rfl, Nat.le_of_ble_eq_true rfl⟩) hK hN (hZ.kept hS) rfl hl.1 rfl (Nat.le_of_ble_eq_true rfl) dX7_winter_4 ⟨Nat.le_of_ble_eq_true rfl, Nat.le_of_ble_eq_true rfl⟩ (fun r_1 hr_1 => ?_)
  rcases hr_1 with ⟨rfl, g_2⟩ | ⟨rfl, g_3, g_4⟩ | ⟨rfl, g_5, g_6⟩
  · refine lv_if_ne (tgt := 17) hx hb dX7_winter_7 (by decide) (fun c_7 => ?_) (fun c_7 => ?_)
    · exact absurd c_7 (by decide)
    · refine lv_aload_n hx hb dX7_winter_10 rfl (lv_at hl 0 rfl) ?_
      refine lv_bipush (v := 6) hx hb dX7_winter_11 (by decide) ?_
      skip
      refine zw_V (As := [.int 6]) (rest := []) (wr := [(j0, .inr (0, [.ref z0, .ref jp, .ref jc, .int cn, .int de, .int tr, .int se, .int hu, .int sd])), (z0, .inr (6, [.ref zl, .ref zs, .int sz, .int at_, .int gp])), (w0, .inr (5, [.ref wk, .ref wl, .ref wc, .ref wp, .int wn, .int wh, .int wg])), (wk, .inl (cI, 125, .inl fk)), (wl, .inl (cI, 125, .inl fl)), (wc, .inl (cI, 3, .inl fc)), (wp, .inl (cP, 8, .inr (.inr (.inr (.inr fq))))), (jp, .inl (cP, 8, .inr (.inr (.inr (.inr fp))))), (jc, .inl (cI, 3, .inl fjc)), (zl, .inl (cZ, 40, .inl zfl)), (zs, .inl (cI, 40, .inl zfs))]) ⟨hx, hb, hml, hown, hts⟩ (c_X_refuse_6 l D cI cJ cZ cP cS po x0 xs j0 k0 w0 rd mv xr (im) (lf) fr hy0 hy1 hy2 hy3 H.size) (cwV 1 hts gX7_winter_X7_refuse rfl rfl rfl ⟨rfl, dh_X7_refuse⟩ ⟨Nat.le_of_ble_eq_true rfl, Nat.le_of_ble_eq_true rfl⟩) hK hN (hZ.kept hS) hP hD hS hA [0, 1] [2, 3, 4, 5, 6, 7, 8, 9, 10, 11, 12] rfl rfl (by decide) (by decide) (by decide) (va_recv (q := (RX7, TX7, 9)) hK hP (ci := 7) (q0 := 0) rfl rfl) rfl hl.1 rfl (Nat.le_of_ble_eq_true rfl) dX7_winter_13 ⟨Nat.le_of_ble_eq_true rfl, Nat.le_of_ble_eq_true rfl⟩ (fun r_8 u_9 H locs hr_8 hP hD hS => ?_)
      obtain ⟨q_10, rfl⟩ : ∃ z, z = u_9 := ⟨_, rfl⟩
      have h9R := zRe (ws' := [(j0, .inr (0, [.ref z0, .ref jp, .ref jc, .int cn, .int de, .int tr, .int se, .int hu, .int sd])), (z0, .inr (6, [.ref zl, .ref zs, .int sz, .int at_, .int gp])), (w0, .inr (5, [.ref wk, .ref wl, .ref wc, .ref wp, .int wn, .int wh, .int wg])), (wk, .inl (cI, 125, .inl fk)), (wl, .inl (cI, 125, .inl fl)), (wc, .inl (cI, 3, .inl fc)), (wp, .inl (cP, 8, .inr (.inr (.inr (.inr fq))))), (jp, .inl (cP, 8, .inr (.inr (.inr (.inr fp))))), (jc, .inl (cI, 3, .inl fjc)), (zl, .inl (cZ, 40, .inl zfl)), (zs, .inl (cI, 40, .inl zfs)), (x0, .inr (7, [.ref xs, .ref j0, .ref k0, .ref w0, .ref rd, .ref mv, .ref xr, .int im, .int lf])), (xr, .inl (cI, 8, .inl q_10))]) hP hD rfl
      clear hP hD
      obtain ⟨hP, hD⟩ := h9R
      obtain rfl := hr_8
      exact W.iret (v := (-6)) hx hb hr (fun t ht hW => ⟨⟨(-6), (wn, wh, wg, fk, fl, fc, fq, de, tr, se, sd, at_, q_10), rfl, ⟨(show 0 ≤ wn.toInt ∧ wn.toInt ≤ 8 from ⟨hy16, hy17⟩), (show 0 ≤ wh.toInt ∧ wh.toInt ≤ 9 from ⟨hy18, hy19⟩), (show 0 ≤ wg.toInt ∧ wg.toInt ≤ 60 from ⟨hy20, hy21⟩), hp_fc, hwq, (show 0 ≤ de.toInt ∧ de.toInt ≤ 24 from ⟨hy6, hy7⟩), (show 0 ≤ at_.toInt ∧ at_.toInt ≤ 40 from ⟨hy12, hy13⟩), (show ((n.toInt < 1 ∨ 60 < n.toInt) ∧ ((-6) : Int32).toInt = -6 ∧ at_ = at_ ∧ de = de ∧ se = se ∧ tr = tr ∧ sd = sd) ∨ ((1 ≤ n.toInt ∧ n.toInt ≤ 60) ∧ zWi zfl zfs gp.toInt sz.toInt kf af tf cn.toInt.toNat hu.toInt n.toInt.toNat 0 at_.toInt de.toInt se.toInt tr sd = (((-6) : Int32).toInt, at_.toInt, de.toInt, se.toInt, tr, sd)) from by (have k9 : ((-6) : Int32).toInt = -6 := (by decide); exact Or.inl ⟨by omega, by omega, rfl, rfl, rfl, rfl, rfl⟩)), (show at_.toInt ≤ sz.toInt ∧ 0 ≤ se.toInt ∧ se.toInt ≤ 300 from by exact ⟨by omega, by omega, by omega⟩), trivial⟩, zRet ht hP hD [11, 12, 0, 1, 2, 3, 4, 5, 6, 7, 8, 9, 10] (by decide) rfl⟩, hS.F ht⟩) hS.2.2 dX7_winter_16
  · refine lv_if_ne (tgt := 17) hx hb dX7_winter_7 (by decide) (fun c_11 => ?_) (fun c_11 => ?_)
    · exact absurd c_11 (by decide)
    · refine lv_aload_n hx hb dX7_winter_10 rfl (lv_at hl 0 rfl) ?_
      refine lv_bipush (v := 6) hx hb dX7_winter_11 (by decide) ?_
      skip
      refine zw_V (As := [.int 6]) (rest := []) (wr := [(j0, .inr (0, [.ref z0, .ref jp, .ref jc, .int cn, .int de, .int tr, .int se, .int hu, .int sd])), (z0, .inr (6, [.ref zl, .ref zs, .int sz, .int at_, .int gp])), (w0, .inr (5, [.ref wk, .ref wl, .ref wc, .ref wp, .int wn, .int wh, .int wg])), (wk, .inl (cI, 125, .inl fk)), (wl, .inl (cI, 125, .inl fl)), (wc, .inl (cI, 3, .inl fc)), (wp, .inl (cP, 8, .inr (.inr (.inr (.inr fq))))), (jp, .inl (cP, 8, .inr (.inr (.inr (.inr fp))))), (jc, .inl (cI, 3, .inl fjc)), (zl, .inl (cZ, 40, .inl zfl)), (zs, .inl (cI, 40, .inl zfs))]) ⟨hx, hb, hml, hown, hts⟩ (c_X_refuse_6 l D cI cJ cZ cP cS po x0 xs j0 k0 w0 rd mv xr (im) (lf) fr hy0 hy1 hy2 hy3 H.size) (cwV 1 hts gX7_winter_X7_refuse rfl rfl rfl ⟨rfl, dh_X7_refuse⟩ ⟨Nat.le_of_ble_eq_true rfl, Nat.le_of_ble_eq_true rfl⟩) hK hN (hZ.kept hS) hP hD hS hA [0, 1] [2, 3, 4, 5, 6, 7, 8, 9, 10, 11, 12] rfl rfl (by decide) (by decide) (by decide) (va_recv (q := (RX7, TX7, 9)) hK hP (ci := 7) (q0 := 0) rfl rfl) rfl hl.1 rfl (Nat.le_of_ble_eq_true rfl) dX7_winter_13 ⟨Nat.le_of_ble_eq_true rfl, Nat.le_of_ble_eq_true rfl⟩ (fun r_12 u_13 H locs hr_12 hP hD hS => ?_)
      obtain ⟨q_14, rfl⟩ : ∃ z, z = u_13 := ⟨_, rfl⟩
      have h9R := zRe (ws' := [(j0, .inr (0, [.ref z0, .ref jp, .ref jc, .int cn, .int de, .int tr, .int se, .int hu, .int sd])), (z0, .inr (6, [.ref zl, .ref zs, .int sz, .int at_, .int gp])), (w0, .inr (5, [.ref wk, .ref wl, .ref wc, .ref wp, .int wn, .int wh, .int wg])), (wk, .inl (cI, 125, .inl fk)), (wl, .inl (cI, 125, .inl fl)), (wc, .inl (cI, 3, .inl fc)), (wp, .inl (cP, 8, .inr (.inr (.inr (.inr fq))))), (jp, .inl (cP, 8, .inr (.inr (.inr (.inr fp))))), (jc, .inl (cI, 3, .inl fjc)), (zl, .inl (cZ, 40, .inl zfl)), (zs, .inl (cI, 40, .inl zfs)), (x0, .inr (7, [.ref xs, .ref j0, .ref k0, .ref w0, .ref rd, .ref mv, .ref xr, .int im, .int lf])), (xr, .inl (cI, 8, .inl q_14))]) hP hD rfl
      clear hP hD
      obtain ⟨hP, hD⟩ := h9R
      obtain rfl := hr_12
      exact W.iret (v := (-6)) hx hb hr (fun t ht hW => ⟨⟨(-6), (wn, wh, wg, fk, fl, fc, fq, de, tr, se, sd, at_, q_14), rfl, ⟨(show 0 ≤ wn.toInt ∧ wn.toInt ≤ 8 from ⟨hy16, hy17⟩), (show 0 ≤ wh.toInt ∧ wh.toInt ≤ 9 from ⟨hy18, hy19⟩), (show 0 ≤ wg.toInt ∧ wg.toInt ≤ 60 from ⟨hy20, hy21⟩), hp_fc, hwq, (show 0 ≤ de.toInt ∧ de.toInt ≤ 24 from ⟨hy6, hy7⟩), (show 0 ≤ at_.toInt ∧ at_.toInt ≤ 40 from ⟨hy12, hy13⟩), (show ((n.toInt < 1 ∨ 60 < n.toInt) ∧ ((-6) : Int32).toInt = -6 ∧ at_ = at_ ∧ de = de ∧ se = se ∧ tr = tr ∧ sd = sd) ∨ ((1 ≤ n.toInt ∧ n.toInt ≤ 60) ∧ zWi zfl zfs gp.toInt sz.toInt kf af tf cn.toInt.toNat hu.toInt n.toInt.toNat 0 at_.toInt de.toInt se.toInt tr sd = (((-6) : Int32).toInt, at_.toInt, de.toInt, se.toInt, tr, sd)) from by (have k9 : ((-6) : Int32).toInt = -6 := (by decide); exact Or.inl ⟨by omega, by omega, rfl, rfl, rfl, rfl, rfl⟩)), (show at_.toInt ≤ sz.toInt ∧ 0 ≤ se.toInt ∧ se.toInt ≤ 300 from by exact ⟨by omega, by omega, by omega⟩), trivial⟩, zRet ht hP hD [11, 12, 0, 1, 2, 3, 4, 5, 6, 7, 8, 9, 10] (by decide) rfl⟩, hS.F ht⟩) hS.2.2 dX7_winter_16
  · refine lv_if_ne (tgt := 17) hx hb dX7_winter_7 (by decide) (fun c_15 => ?_) (fun c_15 => ?_)
    · refine lv_aload_n hx hb dX7_winter_17 rfl (lv_at hl 0 rfl) ?_
      refine va_get (D := D) (ci := 7) (v := .ref w0) (C := RX7) (T := TX7) (N := 9) hx hb hts hi_X7_winter_7 hown hK hP 0 rfl rfl 3 (by decide) (hts (.fieldLink RX7 28 "TheLiningsInIt" "ways" "LTheLiningsInIt$Ways;") (List.mem_of_getElem? (i := 1) rfl)) (fun _ h9 => h9) rfl dX7_winter_18 ?_
      refine lv_aload_n hx hb dX7_winter_21 rfl (lv_at hl 0 rfl) ?_
      refine va_get (D := D) (ci := 7) (v := .ref j0) (C := RX7) (T := TX7) (N := 9) hx hb hts hi_X7_winter_7 hown hK hP 0 rfl rfl 1 (by decide) (hts (.fieldLink RX7 18 "TheLiningsInIt" "now" "LTheLiningsInIt$Jacket;") (List.mem_of_getElem? (i := 2) rfl)) (fun _ h9 => h9) rfl dX7_winter_22 ?_
      refine lv_aload_n hx hb dX7_winter_25 rfl (lv_at hl 0 rfl) ?_
      refine va_get (D := D) (ci := 7) (v := .ref j0) (C := RX7) (T := TX7) (N := 9) hx hb hts hi_X7_winter_7 hown hK hP 0 rfl rfl 1 (by decide) (hts (.fieldLink RX7 18 "TheLiningsInIt" "now" "LTheLiningsInIt$Jacket;") (List.mem_of_getElem? (i := 2) rfl)) (fun _ h9 => h9) rfl dX7_winter_26 ?_
      refine va_get (D := D) (ci := 0) (v := .int hu) (C := RX0) (T := TX0) (N := 9) hx hb hts hi_X7_winter_0 hown hK hP 2 rfl rfl 7 (by decide) (hts (.fieldLink RX7 116 "TheLiningsInIt$Jacket" "hurry" "I") (List.mem_of_getElem? (i := 3) rfl)) (fun _ h9 => h9) rfl dX7_winter_29 ?_
      refine lv_iconst (v := 1) hx hb dX7_winter_32 (by decide) ?_
      skip
      refine zw_Vv (As := [.ref j0, .int hu, .int 1]) (rest := []) (wr := [(x0, .inr (7, [.ref xs, .ref j0, .ref k0, .ref w0, .ref rd, .ref mv, .ref xr, .int im, .int lf])), (xr, .inl (cI, 8, .inl fr)), (z0, .inr (6, [.ref zl, .ref zs, .int sz, .int at_, .int gp])), (zl, .inl (cZ, 40, .inl zfl)), (zs, .inl (cI, 40, .inl zfs))]) ⟨hx, hb, hml, hown, hts⟩ (c_F_W_look l D cI cJ cZ cP cS po w0 wk wl wc wp (wn) (wh) (wg) j0 jp jc z0 0 0 (cn) (de) (tr) (se) (hu) (sd) fp fq kf af tf fk fl fc fjc (hu) (1) hy16 hy17 hy18 hy19 hy20 hy21 hy4 hy5 hy6 hy7 hy8 hy9 hy8 hy9 hwq hjp hp_fc hp_fjc H.size) (cwV 3 hts gX7_winter_X5_look rfl rfl rfl ⟨rfl, dh_X5_look⟩ ⟨Nat.le_of_ble_eq_true rfl, Nat.le_of_ble_eq_true rfl⟩) hK hN (hZ.kept hS) hP hD hS hA [4, 5, 6, 7, 8, 2, 9, 10] [0, 1, 3, 11, 12] rfl rfl (by decide) (by decide) (by decide) (va_recv (q := (RX5, TX5, 7)) hK hP (ci := 5) (q0 := 4) rfl rfl) rfl hl.1 rfl (Nat.le_of_ble_eq_true rfl) dX7_winter_33 ⟨Nat.le_of_ble_eq_true rfl, Nat.le_of_ble_eq_true rfl⟩ (fun u_17 H locs hr_16 hP hD hS => ?_)
      obtain ⟨q_18, q_19, q_20, q_21, q_22, q_23, q_24⟩ := u_17
      try dsimp only at hr_16
      obtain ⟨hbq_18, hbq_19, hbq_20, hpq_23, hwq_24, hsr_16_0, hsr_16_1, hsr_16_2, hsr_16_3, hsr_16_4, hsr_16_5, hr_16⟩ := hr_16
      have h9R := zRe (ws' := [(x0, .inr (7, [.ref xs, .ref j0, .ref k0, .ref w0, .ref rd, .ref mv, .ref xr, .int im, .int lf])), (xr, .inl (cI, 8, .inl fr)), (z0, .inr (6, [.ref zl, .ref zs, .int sz, .int at_, .int gp])), (zl, .inl (cZ, 40, .inl zfl)), (zs, .inl (cI, 40, .inl zfs)), (w0, .inr (5, [.ref wk, .ref wl, .ref wc, .ref wp, .int q_18, .int q_19, .int q_20])), (wk, .inl (cI, 125, .inl q_21)), (wl, .inl (cI, 125, .inl q_22)), (wc, .inl (cI, 3, .inl q_23)), (wp, .inl (cP, 8, .inr (.inr (.inr (.inr q_24))))), (j0, .inr (0, [.ref z0, .ref jp, .ref jc, .int cn, .int de, .int tr, .int se, .int hu, .int sd])), (jp, .inl (cP, 8, .inr (.inr (.inr (.inr fp))))), (jc, .inl (cI, 3, .inl fjc))]) hP hD rfl
      clear hP hD
      obtain ⟨hP, hD⟩ := h9R
      obtain ⟨ewn, ewh⟩ := hsr_16_2
      have ewn9 := congrArg Int32.toInt ewn
      have ewh9 := congrArg Int32.toInt ewh
      have hjw9 : zJW po q_24 q_18 kf af tf (1 : Int32) := by (intro j hj; exact hsr_16_0 j (by rw [← ewn]; exact hj))
      have hkm9 : zKm kf af tf q_18.toInt.toNat q_19.toInt (1 : Int32).toInt q_20.toInt q_21 := zKm_0 hsr_16_4
      have hgl9 : ∀ p : Nat, p < q_18.toInt.toNat → ((1 : Int32).toInt ≠ 0 ∨ (kf p).toInt ≠ 5) → (tf p).toInt ≤ q_20.toInt := fun p hp hl => hsr_16_1 p (by rw [ewn] at hp; omega) hl
      have hkn9 : zKn kf af tf q_18.toInt.toNat q_19.toInt (q_23 0).toInt (q_23 1).toInt (q_23 2).toInt q_20.toInt q_22 := zKn_0 hsr_16_5
      have hgk9 : ∀ p : Nat, p < q_18.toInt.toNat → (tf p).toInt ≤ q_20.toInt := fun p hp => hgl9 p hp (Or.inl (by decide))
      refine lv_iconst (v := 0) hx hb dX7_winter_36 (by decide) ?_
      refine lv_istore_n (lv' := [(2, .int 0), (0, .ref x0), (1, .int n)]) hx hb dX7_winter_37 rfl hl (by decide) rfl (fun ls hl => ?_)
      refine lv_iconst (v := 0) hx hb dX7_winter_38 (by decide) ?_
      refine lv_istore_n (lv' := [(3, .int 0), (2, .int 0), (0, .ref x0), (1, .int n)]) hx hb dX7_winter_39 rfl hl (by decide) rfl (fun ls hl => ?_)
      obtain ⟨i_40, hi_40⟩ : ∃ i : Int32, i = 0 := ⟨_, rfl⟩
      replace hl : lv_has ls 4 [(3, .int i_40), (2, .int 0), (0, .ref x0), (1, .int n)] := by rw [hi_40]; exact lv_sub hl [0, 1, 2, 3] rfl
      have h1i_40 : i_40.toInt = 0 := by rw [hi_40]; decide
      obtain ⟨nfu, hni_40⟩ : ∃ nq9 : Nat, n.toInt ≤ i_40.toInt + (nq9 : Int) := ⟨((n.toInt : Int) - 0).toNat, by omega⟩
      have hloi_40 : 0 ≤ i_40.toInt := by omega
      obtain ⟨g_25, hg_25⟩ : ∃ g : Nat → Int32, g = q_21 := ⟨_, rfl⟩
      obtain ⟨v_26, hv_26⟩ : ∃ g : Int32, g = de := ⟨_, rfl⟩
      have hbv_26 : 0 ≤ v_26.toInt ∧ v_26.toInt ≤ 24 := by rw [hv_26]; exact ⟨by omega, by omega⟩
      obtain ⟨v_27, hv_27⟩ : ∃ g : Int32, g = tr := ⟨_, rfl⟩
      obtain ⟨v_28, hv_28⟩ : ∃ g : Int32, g = se := ⟨_, rfl⟩
      have hbv_28 : 0 ≤ v_28.toInt ∧ v_28.toInt ≤ 300 := by rw [hv_28]; exact ⟨by omega, by omega⟩
      obtain ⟨v_29, hv_29⟩ : ∃ g : Int32, g = sd := ⟨_, rfl⟩
      obtain ⟨v_30, hv_30⟩ : ∃ g : Int32, g = at_ := ⟨_, rfl⟩
      have hbv_30 : 0 ≤ v_30.toInt ∧ v_30.toInt ≤ 40 := by rw [hv_30]; exact ⟨by omega, by omega⟩
      replace hP : va_P D vwCl [(x0, .inr (7, [.ref xs, .ref j0, .ref k0, .ref w0, .ref rd, .ref mv, .ref xr, .int im, .int lf])), (xr, .inl (cI, 8, .inl fr)), (z0, .inr (6, [.ref zl, .ref zs, .int sz, .int v_30, .int gp])), (zl, .inl (cZ, 40, .inl zfl)), (zs, .inl (cI, 40, .inl zfs)), (w0, .inr (5, [.ref wk, .ref wl, .ref wc, .ref wp, .int q_18, .int q_19, .int q_20])), (wk, .inl (cI, 125, .inl g_25)), (wl, .inl (cI, 125, .inl q_22)), (wc, .inl (cI, 3, .inl q_23)), (wp, .inl (cP, 8, .inr (.inr (.inr (.inr q_24))))), (j0, .inr (0, [.ref z0, .ref jp, .ref jc, .int cn, .int v_26, .int v_27, .int v_28, .int hu, .int v_29])), (jp, .inl (cP, 8, .inr (.inr (.inr (.inr fp))))), (jc, .inl (cI, 3, .inl fjc))] H := by rw [hg_25, hv_26, hv_27, hv_28, hv_29, hv_30]; exact hP
      replace hD : va_D (va_A [(x0, .inr (7, [.ref xs, .ref j0, .ref k0, .ref w0, .ref rd, .ref mv, .ref xr, .int im, .int lf])), (xr, .inl (cI, 8, .inl fr)), (j0, .inr (0, [.ref z0, .ref jp, .ref jc, .int cn, .int de, .int tr, .int se, .int hu, .int sd])), (z0, .inr (6, [.ref zl, .ref zs, .int sz, .int at_, .int gp])), (w0, .inr (5, [.ref wk, .ref wl, .ref wc, .ref wp, .int wn, .int wh, .int wg])), (wk, .inl (cI, 125, .inl fk)), (wl, .inl (cI, 125, .inl fl)), (wc, .inl (cI, 3, .inl fc)), (wp, .inl (cP, 8, .inr (.inr (.inr (.inr fq))))), (jp, .inl (cP, 8, .inr (.inr (.inr (.inr fp))))), (jc, .inl (cI, 3, .inl fjc)), (zl, .inl (cZ, 40, .inl zfl)), (zs, .inl (cI, 40, .inl zfs))] s.heap.size) [(x0, .inr (7, [.ref xs, .ref j0, .ref k0, .ref w0, .ref rd, .ref mv, .ref xr, .int im, .int lf])), (xr, .inl (cI, 8, .inl fr)), (z0, .inr (6, [.ref zl, .ref zs, .int sz, .int v_30, .int gp])), (zl, .inl (cZ, 40, .inl zfl)), (zs, .inl (cI, 40, .inl zfs)), (w0, .inr (5, [.ref wk, .ref wl, .ref wc, .ref wp, .int q_18, .int q_19, .int q_20])), (wk, .inl (cI, 125, .inl g_25)), (wl, .inl (cI, 125, .inl q_22)), (wc, .inl (cI, 3, .inl q_23)), (wp, .inl (cP, 8, .inr (.inr (.inr (.inr q_24))))), (j0, .inr (0, [.ref z0, .ref jp, .ref jc, .int cn, .int v_26, .int v_27, .int v_28, .int hu, .int v_29])), (jp, .inl (cP, 8, .inr (.inr (.inr (.inr fp))))), (jc, .inl (cI, 3, .inl fjc))] := by rw [hg_25, hv_26, hv_27, hv_28, hv_29, hv_30]; exact hD
      obtain ⟨v_31, hv_31⟩ : ∃ g : Int32, g = 0 := ⟨_, rfl⟩
      replace hl : lv_has ls 4 [(3, .int i_40), (2, .int v_31), (0, .ref x0), (1, .int n)] := by rw [hv_31]; exact hl
      have hbv_31 : 0 ≤ v_31.toInt ∧ v_31.toInt ≤ 60 := by rw [hv_31]; exact ⟨by decide, by decide⟩
      have hvi_40_0 : zWi zfl zfs gp.toInt sz.toInt kf af tf cn.toInt.toNat hu.toInt n.toInt.toNat 0 at_.toInt de.toInt se.toInt tr sd = zWi zfl zfs gp.toInt sz.toInt kf af tf cn.toInt.toNat hu.toInt (n.toInt - i_40.toInt).toNat (v_31 : Int32).toInt (v_30 : Int32).toInt (v_26 : Int32).toInt (v_28 : Int32).toInt (v_27 : Int32) (v_29 : Int32) := by
        (try rw [hi_40]); (try rw [hg_25]); (try rw [hv_26]); (try rw [hv_27]); (try rw [hv_28]); (try rw [hv_29]); (try rw [hv_30]); (try rw [hv_31]); (rw [show (0 : Int32).toInt = 0 from by decide, Int.sub_zero])
      have hvi_40_1 : zKm kf af tf q_18.toInt.toNat q_19.toInt (1 : Int32).toInt q_20.toInt g_25 := by
        (try rw [hi_40]); (try rw [hg_25]); (try rw [hv_26]); (try rw [hv_27]); (try rw [hv_28]); (try rw [hv_29]); (try rw [hv_30]); (try rw [hv_31]); exact hkm9
      have hvi_40_2 : i_40.toInt ≤ n.toInt ∧ (v_31 : Int32).toInt ≤ i_40.toInt ∧ (v_30 : Int32).toInt ≤ sz.toInt := by
        (try rw [hi_40]); (try rw [hg_25]); (try rw [hv_26]); (try rw [hv_27]); (try rw [hv_28]); (try rw [hv_29]); (try rw [hv_30]); (try rw [hv_31]); (have k0 : (0 : Int32).toInt = 0 := (by decide); omega)
      clear h1i_40 hi_40 hg_25 hv_26 hv_27 hv_28 hv_29 hv_30 hv_31
      skip
      revert hni_40
      revert hloi_40
      revert hvi_40_2
      revert hvi_40_1
      revert hvi_40_0
      revert hbv_31
      revert hbv_30
      revert hbv_28
      revert hbv_26
      revert hl
      revert hS
      revert hD
      revert hP
      revert ls
      revert locs
      revert H
      revert g_25
      revert v_26
      revert v_27
      revert v_28
      revert v_29
      revert v_30
      revert v_31
      revert i_40
      induction nfu with
      | zero =>
        intro i_40 v_31 v_30 v_29 v_28 v_27 v_26 g_25 H locs ls hP hD hS hl hbv_26 hbv_28 hbv_30 hbv_31 hvi_40_0 hvi_40_1 hvi_40_2 hloi_40 hni_40
        have hzi_40 : n.toInt ≤ i_40.toInt := by omega
        refine lv_iload_n hx hb dX7_winter_40 rfl (lv_at hl 0 rfl) ?_
        refine lv_iload_n hx hb dX7_winter_41 rfl (lv_at hl 3 rfl) ?_
        refine lv_icmp_ge (tgt := 68) hx hb dX7_winter_42 (by decide) (fun c_32 => ?_) (fun c_32 => ?_)
        · have fc_32 : n.toInt ≤ i_40.toInt := zf_le c_32 rfl rfl
          refine lv_iload_n hx hb dX7_winter_68 rfl (lv_at hl 1 rfl) ?_
          exact W.iret (v := v_31) hx hb hr (fun t ht hW => ⟨⟨v_31, (q_18, q_19, q_20, g_25, q_22, q_23, q_24, v_26, v_27, v_28, v_29, v_30, fr), rfl, ⟨(show 0 ≤ q_18.toInt ∧ q_18.toInt ≤ 8 from hbq_18), (show 0 ≤ q_19.toInt ∧ q_19.toInt ≤ 9 from hbq_19), (show 0 ≤ q_20.toInt ∧ q_20.toInt ≤ 60 from hbq_20), hpq_23, hwq_24, (show 0 ≤ v_26.toInt ∧ v_26.toInt ≤ 24 from hbv_26), (show 0 ≤ v_30.toInt ∧ v_30.toInt ≤ 40 from hbv_30), (show ((n.toInt < 1 ∨ 60 < n.toInt) ∧ (v_31 : Int32).toInt = -6 ∧ v_30 = at_ ∧ v_26 = de ∧ v_28 = se ∧ v_27 = tr ∧ v_29 = sd) ∨ ((1 ≤ n.toInt ∧ n.toInt ≤ 60) ∧ zWi zfl zfs gp.toInt sz.toInt kf af tf cn.toInt.toNat hu.toInt n.toInt.toNat 0 at_.toInt de.toInt se.toInt tr sd = ((v_31 : Int32).toInt, v_30.toInt, v_26.toInt, v_28.toInt, v_27, v_29)) from by (refine Or.inr ⟨by omega, ?_⟩; rw [hvi_40_0, show (n.toInt - i_40.toInt).toNat = 0 from by omega]; rfl)), (show v_30.toInt ≤ sz.toInt ∧ 0 ≤ v_28.toInt ∧ v_28.toInt ≤ 300 from by exact ⟨by omega, by omega, by omega⟩), trivial⟩, zRet ht hP hD [0, 1, 10, 2, 5, 6, 7, 8, 9, 11, 12, 3, 4] (by decide) rfl⟩, hS.F ht⟩) hS.2.2 dX7_winter_69
        · exfalso; have fc_32 : i_40.toInt < n.toInt := zf_nle c_32 rfl rfl; omega
      | succ nfu ih =>
        intro i_40 v_31 v_30 v_29 v_28 v_27 v_26 g_25 H locs ls hP hD hS hl hbv_26 hbv_28 hbv_30 hbv_31 hvi_40_0 hvi_40_1 hvi_40_2 hloi_40 hni_40
        refine lv_iload_n hx hb dX7_winter_40 rfl (lv_at hl 0 rfl) ?_
        refine lv_iload_n hx hb dX7_winter_41 rfl (lv_at hl 3 rfl) ?_
        refine lv_icmp_ge (tgt := 68) hx hb dX7_winter_42 (by decide) (fun c_33 => ?_) (fun c_33 => ?_)
        · have fc_33 : n.toInt ≤ i_40.toInt := zf_le c_33 rfl rfl
          refine lv_iload_n hx hb dX7_winter_68 rfl (lv_at hl 1 rfl) ?_
          exact W.iret (v := v_31) hx hb hr (fun t ht hW => ⟨⟨v_31, (q_18, q_19, q_20, g_25, q_22, q_23, q_24, v_26, v_27, v_28, v_29, v_30, fr), rfl, ⟨(show 0 ≤ q_18.toInt ∧ q_18.toInt ≤ 8 from hbq_18), (show 0 ≤ q_19.toInt ∧ q_19.toInt ≤ 9 from hbq_19), (show 0 ≤ q_20.toInt ∧ q_20.toInt ≤ 60 from hbq_20), hpq_23, hwq_24, (show 0 ≤ v_26.toInt ∧ v_26.toInt ≤ 24 from hbv_26), (show 0 ≤ v_30.toInt ∧ v_30.toInt ≤ 40 from hbv_30), (show ((n.toInt < 1 ∨ 60 < n.toInt) ∧ (v_31 : Int32).toInt = -6 ∧ v_30 = at_ ∧ v_26 = de ∧ v_28 = se ∧ v_27 = tr ∧ v_29 = sd) ∨ ((1 ≤ n.toInt ∧ n.toInt ≤ 60) ∧ zWi zfl zfs gp.toInt sz.toInt kf af tf cn.toInt.toNat hu.toInt n.toInt.toNat 0 at_.toInt de.toInt se.toInt tr sd = ((v_31 : Int32).toInt, v_30.toInt, v_26.toInt, v_28.toInt, v_27, v_29)) from by (refine Or.inr ⟨by omega, ?_⟩; rw [hvi_40_0, show (n.toInt - i_40.toInt).toNat = 0 from by omega]; rfl)), (show v_30.toInt ≤ sz.toInt ∧ 0 ≤ v_28.toInt ∧ v_28.toInt ≤ 300 from by exact ⟨by omega, by omega, by omega⟩), trivial⟩, zRet ht hP hD [0, 1, 10, 2, 5, 6, 7, 8, 9, 11, 12, 3, 4] (by decide) rfl⟩, hS.F ht⟩) hS.2.2 dX7_winter_69
        · have fc_33 : i_40.toInt < n.toInt := zf_nle c_33 rfl rfl
          refine lv_aload_n hx hb dX7_winter_45 rfl (lv_at hl 2 rfl) ?_
          refine va_get (D := D) (ci := 7) (v := .ref j0) (C := RX7) (T := TX7) (N := 9) hx hb hts hi_X7_winter_7 hown hK hP 0 rfl rfl 1 (by decide) (hts (.fieldLink RX7 18 "TheLiningsInIt" "now" "LTheLiningsInIt$Jacket;") (List.mem_of_getElem? (i := 2) rfl)) (fun _ h9 => h9) rfl dX7_winter_46 ?_
          refine lv_aload_n hx hb dX7_winter_49 rfl (lv_at hl 2 rfl) ?_
          refine va_get (D := D) (ci := 7) (v := .ref w0) (C := RX7) (T := TX7) (N := 9) hx hb hts hi_X7_winter_7 hown hK hP 0 rfl rfl 3 (by decide) (hts (.fieldLink RX7 28 "TheLiningsInIt" "ways" "LTheLiningsInIt$Ways;") (List.mem_of_getElem? (i := 1) rfl)) (fun _ h9 => h9) rfl dX7_winter_50 ?_
          skip
          refine zw_V (As := [.ref w0]) (rest := []) (wr := [(x0, .inr (7, [.ref xs, .ref j0, .ref k0, .ref w0, .ref rd, .ref mv, .ref xr, .int im, .int lf])), (xr, .inl (cI, 8, .inl fr)), (wl, .inl (cI, 125, .inl q_22)), (wc, .inl (cI, 3, .inl q_23)), (jc, .inl (cI, 3, .inl fjc))]) ⟨hx, hb, hml, hown, hts⟩ (c_F_J_dayInTruth l D cI cJ cZ cP cS po w0 wk wl wc wp (q_18) (q_19) (q_20) j0 jp jc z0 zl zs (cn) (v_26) (v_27) (v_28) (hu) (v_29) (sz) (v_30) (gp) zfl zfs fp q_24 kf af tf (1) g_25 hbq_18.1 hbq_18.2 hbq_19.1 hbq_19.2 hbq_20.1 hbq_20.2 hy4 hy5 hbv_26.1 hbv_26.2 hy8 hy9 hy10 hy11 hbv_30.1 hbv_30.2 hy14 hy15 hjw9 (by first | assumption | omega) (by first | assumption | omega) (by omega) (by omega) (by first | assumption | omega | decide) hjp hp_zfl hp_zfs H.size) (cwV 1 hts gX7_winter_X0_dayInTruth rfl rfl rfl ⟨rfl, dh_X0_dayInTruth⟩ ⟨Nat.le_of_ble_eq_true rfl, Nat.le_of_ble_eq_true rfl⟩) hK hN (hZ.kept hS) hP hD hS hA [5, 6, 9, 10, 11, 2, 3, 4] [0, 1, 7, 8, 12] rfl rfl (by decide) (by decide) (by decide) (va_recv (q := (RX0, TX0, 9)) hK hP (ci := 0) (q0 := 10) rfl rfl) rfl hl.1 rfl (Nat.le_of_ble_eq_true rfl) dX7_winter_53 ⟨Nat.le_of_ble_eq_true rfl, Nat.le_of_ble_eq_true rfl⟩ (fun r_34 u_35 H locs hr_34 hP hD hS => ?_)
          obtain ⟨q_36, q_37, q_38, q_39, q_40, q_41⟩ := u_35
          try dsimp only at hr_34
          obtain ⟨hbq_36, hbq_40, hsr_34_0, hsr_34_1, hsr_34_2, hr_34⟩ := hr_34
          have h9R := zRe (ws' := [(x0, .inr (7, [.ref xs, .ref j0, .ref k0, .ref w0, .ref rd, .ref mv, .ref xr, .int im, .int lf])), (xr, .inl (cI, 8, .inl fr)), (wl, .inl (cI, 125, .inl q_22)), (wc, .inl (cI, 3, .inl q_23)), (jc, .inl (cI, 3, .inl fjc)), (w0, .inr (5, [.ref wk, .ref wl, .ref wc, .ref wp, .int q_18, .int q_19, .int q_20])), (wk, .inl (cI, 125, .inl q_41)), (wp, .inl (cP, 8, .inr (.inr (.inr (.inr q_24))))), (j0, .inr (0, [.ref z0, .ref jp, .ref jc, .int cn, .int q_36, .int q_37, .int q_38, .int hu, .int q_39])), (jp, .inl (cP, 8, .inr (.inr (.inr (.inr fp))))), (z0, .inr (6, [.ref zl, .ref zs, .int sz, .int q_40, .int gp])), (zl, .inl (cZ, 40, .inl zfl)), (zs, .inl (cI, 40, .inl zfs))]) hP hD rfl
          clear hP hD
          obtain ⟨hP, hD⟩ := h9R
          obtain ⟨g_42, g_43⟩ := hr_34
          refine lv_if_eq (tgt := 62) hx hb dX7_winter_56 (by decide) (fun c_44 => ?_) (fun c_44 => ?_)
          · have fc_44 : r_34.toInt = 0 := zf_eq c_44 rfl (by decide)
            obtain ⟨x_45, ex_45⟩ : ∃ y : Int32, y = i_40 + 1 := ⟨_, rfl⟩
            have qx_45 : x_45.toInt = i_40.toInt + 1 := dw_inc ex_45 fc_33
            refine lv_iinc (v := x_45) (lv' := [(3, .int x_45), (2, .int v_31), (0, .ref x0), (1, .int n)]) hx hb dX7_winter_62 hl (k := 0) rfl ex_45.symm (by decide) rfl (fun ls hl => ?_)
            refine lv_goto (tgt := 40) hx hb dX7_winter_65 (by decide) ?_
            exact ih x_45 v_31 (q_40) (q_39) (q_38) (q_37) (q_36) (q_41) _ _ _ (hP.sub [0, 1, 10, 11, 12, 5, 6, 2, 3, 7, 8, 9, 4] rfl) (hD.sub [0, 1, 10, 11, 12, 5, 6, 2, 3, 7, 8, 9, 4] (by decide) rfl) hS (lv_sub hl [0, 1, 2, 3] rfl) hbq_36 ⟨by omega, by omega⟩ hbq_40 hbv_31 (show zWi zfl zfs gp.toInt sz.toInt kf af tf cn.toInt.toNat hu.toInt n.toInt.toNat 0 at_.toInt de.toInt se.toInt tr sd = zWi zfl zfs gp.toInt sz.toInt kf af tf cn.toInt.toNat hu.toInt (n.toInt - x_45.toInt).toNat (v_31 : Int32).toInt (q_40 : Int32).toInt (q_36 : Int32).toInt (q_38 : Int32).toInt (q_37 : Int32) (q_39 : Int32) from by (rw [hvi_40_0, show (n.toInt - i_40.toInt).toNat = (n.toInt - x_45.toInt).toNat + 1 from by omega, zWi_s hsr_34_0]; congr 1; omega)) (show zKm kf af tf q_18.toInt.toNat q_19.toInt (1 : Int32).toInt q_20.toInt q_41 from by exact hsr_34_1) (show x_45.toInt ≤ n.toInt ∧ (v_31 : Int32).toInt ≤ x_45.toInt ∧ (q_40 : Int32).toInt ≤ sz.toInt from by exact ⟨by omega, by omega, by omega⟩) (dw_lo hloi_40 qx_45) (dw_hn hni_40 qx_45)
          · have fc_44 : r_34.toInt ≠ 0 := zf_ne c_44 rfl (by decide)
            obtain ⟨x_46, ex_46⟩ : ∃ y : Int32, y = v_31 + 1 := ⟨_, rfl⟩
            have qx_46 : x_46.toInt = v_31.toInt + 1 := by rw [ex_46]; exact zf_add rfl (by decide) (by omega) (by omega)
            refine lv_iinc (v := x_46) (lv' := [(2, .int x_46), (3, .int i_40), (0, .ref x0), (1, .int n)]) hx hb dX7_winter_59 hl (k := 1) rfl ex_46.symm (by decide) rfl (fun ls hl => ?_)
            obtain ⟨x_47, ex_47⟩ : ∃ y : Int32, y = i_40 + 1 := ⟨_, rfl⟩
            have qx_47 : x_47.toInt = i_40.toInt + 1 := dw_inc ex_47 fc_33
            refine lv_iinc (v := x_47) (lv' := [(3, .int x_47), (2, .int x_46), (0, .ref x0), (1, .int n)]) hx hb dX7_winter_62 hl (k := 1) rfl ex_47.symm (by decide) rfl (fun ls hl => ?_)
            refine lv_goto (tgt := 40) hx hb dX7_winter_65 (by decide) ?_
            exact ih x_47 x_46 (q_40) (q_39) (q_38) (q_37) (q_36) (q_41) _ _ _ (hP.sub [0, 1, 10, 11, 12, 5, 6, 2, 3, 7, 8, 9, 4] rfl) (hD.sub [0, 1, 10, 11, 12, 5, 6, 2, 3, 7, 8, 9, 4] (by decide) rfl) hS (lv_sub hl [0, 1, 2, 3] rfl) hbq_36 ⟨by omega, by omega⟩ hbq_40 ⟨by omega, by omega⟩ (show zWi zfl zfs gp.toInt sz.toInt kf af tf cn.toInt.toNat hu.toInt n.toInt.toNat 0 at_.toInt de.toInt se.toInt tr sd = zWi zfl zfs gp.toInt sz.toInt kf af tf cn.toInt.toNat hu.toInt (n.toInt - x_47.toInt).toNat (x_46 : Int32).toInt (q_40 : Int32).toInt (q_36 : Int32).toInt (q_38 : Int32).toInt (q_37 : Int32) (q_39 : Int32) from by (rw [hvi_40_0, show (n.toInt - i_40.toInt).toNat = (n.toInt - x_47.toInt).toNat + 1 from by omega, zWi_s hsr_34_0]; congr 1; omega)) (show zKm kf af tf q_18.toInt.toNat q_19.toInt (1 : Int32).toInt q_20.toInt q_41 from by exact hsr_34_1) (show x_47.toInt ≤ n.toInt ∧ (x_46 : Int32).toInt ≤ x_47.toInt ∧ (q_40 : Int32).toInt ≤ sz.toInt from by exact ⟨by omega, by omega, by omega⟩) (dw_lo hloi_40 qx_47) (dw_hn hni_40 qx_47)
    · exact absurd c_15 (by decide)

