theorem hi_X7_restore_7 : ∀ w ∈ u_ws RX7 TX7 9, w ∈ wsX7_restore := fun w h => (goodIn_r (u_ws RX7 TX7 9) [49, 50, 51, 52, 53, 54, 55, 56, 57] rfl (by decide +kernel) w h).1
theorem hi_X7_restore_0 : ∀ w ∈ u_ws RX0 TX0 9, w ∈ wsX7_restore := fun w h => (goodIn_r (u_ws RX0 TX0 9) [58, 59, 60, 61, 62, 63, 64, 65, 66] rfl (by decide +kernel) w h).1
theorem hi_X7_status_7 : ∀ w ∈ u_ws RX7 TX7 9, w ∈ wsX7_status := fun w h => (goodIn_r (u_ws RX7 TX7 9) [19, 20, 21, 22, 23, 24, 25, 26, 27] rfl (by decide +kernel) w h).1
theorem hi_X7_status_0 : ∀ w ∈ u_ws RX0 TX0 9, w ∈ wsX7_status := fun w h => (goodIn_r (u_ws RX0 TX0 9) [28, 29, 30, 31, 32, 33, 34, 35, 36] rfl (by decide +kernel) w h).1
theorem hi_X7_status_6 : ∀ w ∈ u_ws RX6 TX6 5, w ∈ wsX7_status := fun w h => (goodIn_r (u_ws RX6 TX6 5) [37, 38, 39, 40, 41] rfl (by decide +kernel) w h).1
theorem hi_X7_status_1 : ∀ w ∈ u_ws RX1 TX1 5, w ∈ wsX7_status := fun w h => (goodIn_r (u_ws RX1 TX1 5) [42, 43, 44, 45, 46] rfl (by decide +kernel) w h).1
set_option maxHeartbeats 4000000 in
set_option maxRecDepth 100000 in
theorem c_X_status (l : Launch) (D : va_G) (cI cJ cZ cP cS : ClassId) (po : zPool) (x0 xs j0 k0 w0 rd mv xr : Nat) (im lf : Int32) (fr : Nat → Int32) (j0 jp jc z0 zl zs : Nat) (cn de tr se hu sd : Int32) (sz at_ gp : Int32) (mb : Nat) (mr mk mm mq : Int32) (w : Int32) (hy0 : 0 ≤ im.toInt) (hy1 : im.toInt ≤ 1) (hy2 : (-1) ≤ lf.toInt) (hy3 : lf.toInt ≤ 160) (hy4 : 0 ≤ cn.toInt) (hy5 : cn.toInt ≤ 8) (hy6 : 0 ≤ de.toInt) (hy7 : de.toInt ≤ 24) (hy8 : 0 ≤ hu.toInt) (hy9 : hu.toInt ≤ 9) (hy10 : 4 ≤ sz.toInt) (hy11 : sz.toInt ≤ 40) (hy12 : 0 ≤ at_.toInt) (hy13 : at_.toInt ≤ 40) (hy14 : 1 ≤ gp.toInt) (hy15 : gp.toInt ≤ 9) (hy16 : 0 ≤ mr.toInt) (hy17 : mr.toInt ≤ 2000) : Met l yX7_status wsX7_status ({ frames := 1, cells := 0, slots := 0, locals := 22 }) (va_Pc [.ref x0, .int w] (zR D (zKT cI cJ cZ cP cS) po [(x0, .inr (7, [.ref xs, .ref j0, .ref k0, .ref w0, .ref rd, .ref mv, .ref xr, .int im, .int lf])), (xr, .inl (cI, 8, .inl fr)), (j0, .inr (0, [.ref z0, .ref jp, .ref jc, .int cn, .int de, .int tr, .int se, .int hu, .int sd])), (z0, .inr (6, [.ref zl, .ref zs, .int sz, .int at_, .int gp])), (mv, .inr (1, [.ref mb, .int mr, .int mk, .int mm, .int mq]))])) (vp_Si (fun r => True)) 0 0 (fun _ => False) := by
  refine Met.ofW (cc := cX7_status) (maxL := 2) (ret := (some .int)) (by decide) rfl ?_
  intro p e s m args below meth c s₁ B hml hv
  obtain ⟨rfl, hP, hK, hN, hZ⟩ := hv
  have hx := B.exec
  have hb := B.bytes
  have hr := B.returns
  have hts := atoms_spec (ws := wsX7_status) B.pre
  have hown : s.vm.findClass RX7 = some m.cls := findClass_of_methodNamed B.named
  have hlocks := B.notSynchronized
  have hl := lv_entry ([.ref x0, .int w]) (n := 2) (Nat.le_of_ble_eq_true rfl)
  rw [lg_entry_eq]
  generalize (lg_sl ([.ref x0, .int w]) ++ List.replicate (2 - (lg_sl ([.ref x0, .int w])).length) Slot.unset).toArray = ls at hl ⊢
  replace hl : lv_has ls 2 [(0, .ref x0), (1, .int w)] := hl
  refine lv_iload_n hx hb dX7_status_0 rfl (lv_at hl 1 rfl) ?_
  refine lv_bipush (v := 11) hx hb dX7_status_1 (by decide) ?_
  refine lv_bipush (v := 17) hx hb dX7_status_3 (by decide) ?_
  have kc11 : (11 : Int32).toInt = 11 := by decide
  have kc17 : (17 : Int32).toInt = 17 := by decide
  refine zc_S (As := [.int w, .int 11, .int 17]) (rest := []) ⟨hx, hb, hml, hown, hts⟩ (c_within l D cI cJ cZ cP cS po (w) (11) (17) ) (va_cwS 3 hts gX7_status_X7_within rfl rfl rfl (by decide +kernel) ⟨Nat.le_of_ble_eq_true rfl, Nat.le_of_ble_eq_true rfl⟩) hK hN hZ rfl hl.1 rfl (Nat.le_of_ble_eq_true rfl) dX7_status_5 ⟨Nat.le_of_ble_eq_true rfl, Nat.le_of_ble_eq_true rfl⟩ (fun r_1 hr_1 => ?_)
  rcases hr_1 with ⟨rfl, g_2⟩ | ⟨rfl, g_3, g_4⟩ | ⟨rfl, g_5, g_6⟩
  · refine lv_if_eq (tgt := 21) hx hb dX7_status_8 (by decide) (fun c_7 => ?_) (fun c_7 => ?_)
    · refine lv_iload_n hx hb dX7_status_21 rfl (lv_at hl 1 rfl) ?_
      by_cases hsp : w.toInt < 0 ∨ 9 < w.toInt
      · refine lv_tableOut (tgt := 165) hx hb dX7_status_22 hsp (by decide) ?_
        refine lv_iconst (v := (-1)) hx hb dX7_status_165 (by decide) ?_
        exact W.iret (v := (-1)) hx hb hr (fun t ht hW => ⟨(-1), rfl, trivial, ht⟩) (fun q hq => by cases hq) dX7_status_166
      · have hsp : w = 0 ∨ w = 1 ∨ w = 2 ∨ w = 3 ∨ w = 4 ∨ w = 5 ∨ w = 6 ∨ w = 7 ∨ w = 8 ∨ w = 9 := by
          rcases (show w.toInt = 0 ∨ w.toInt = 1 ∨ w.toInt = 2 ∨ w.toInt = 3 ∨ w.toInt = 4 ∨ w.toInt = 5 ∨ w.toInt = 6 ∨ w.toInt = 7 ∨ w.toInt = 8 ∨ w.toInt = 9 by omega) with h9 | h9 | h9 | h9 | h9 | h9 | h9 | h9 | h9 | h9
          · refine Or.inl ?_; exact zf_val h9 (by decide)
          · refine Or.inr (Or.inl ?_); exact zf_val h9 (by decide)
          · refine Or.inr (Or.inr (Or.inl ?_)); exact zf_val h9 (by decide)
          · refine Or.inr (Or.inr (Or.inr (Or.inl ?_))); exact zf_val h9 (by decide)
          · refine Or.inr (Or.inr (Or.inr (Or.inr (Or.inl ?_)))); exact zf_val h9 (by decide)
          · refine Or.inr (Or.inr (Or.inr (Or.inr (Or.inr (Or.inl ?_))))); exact zf_val h9 (by decide)
          · refine Or.inr (Or.inr (Or.inr (Or.inr (Or.inr (Or.inr (Or.inl ?_)))))); exact zf_val h9 (by decide)
          · refine Or.inr (Or.inr (Or.inr (Or.inr (Or.inr (Or.inr (Or.inr (Or.inl ?_))))))); exact zf_val h9 (by decide)
          · refine Or.inr (Or.inr (Or.inr (Or.inr (Or.inr (Or.inr (Or.inr (Or.inr (Or.inl ?_)))))))); exact zf_val h9 (by decide)
          · refine Or.inr (Or.inr (Or.inr (Or.inr (Or.inr (Or.inr (Or.inr (Or.inr (Or.inr (?_))))))))); exact zf_val h9 (by decide)
        rcases hsp with rfl | rfl | rfl | rfl | rfl | rfl | rfl | rfl | rfl | rfl
        · have kc0 : (0 : Int32).toInt = 0 := by decide
          refine lv_tableIn (tgt := 76) hx hb dX7_status_22 (by decide) (by decide) rfl (by decide) ?_
          refine lv_aload_n hx hb dX7_status_76 rfl (lv_at hl 0 rfl) ?_
          refine va_get (D := D) (ci := 7) (v := .ref j0) (C := RX7) (T := TX7) (N := 9) hx hb hts hi_X7_status_7 hown hK hP 0 rfl rfl 1 (by decide) (hts (.fieldLink RX7 18 "TheLiningsInIt" "now" "LTheLiningsInIt$Jacket;") (List.mem_of_getElem? (i := 2) rfl)) (fun _ h9 => h9) rfl dX7_status_77 ?_
          refine va_get (D := D) (ci := 0) (v := .int cn) (C := RX0) (T := TX0) (N := 9) hx hb hts hi_X7_status_0 hown hK hP 2 rfl rfl 3 (by decide) (hts (.fieldLink RX7 123 "TheLiningsInIt$Jacket" "pullCount" "I") (List.mem_of_getElem? (i := 3) rfl)) (fun _ h9 => h9) rfl dX7_status_80 ?_
          exact W.iret (v := cn) hx hb hr (fun t ht hW => ⟨cn, rfl, trivial, ht⟩) (fun q hq => by cases hq) dX7_status_83
        · have kc1 : (1 : Int32).toInt = 1 := by decide
          refine lv_tableIn (tgt := 84) hx hb dX7_status_22 (by decide) (by decide) rfl (by decide) ?_
          refine lv_aload_n hx hb dX7_status_84 rfl (lv_at hl 0 rfl) ?_
          refine va_get (D := D) (ci := 7) (v := .ref j0) (C := RX7) (T := TX7) (N := 9) hx hb hts hi_X7_status_7 hown hK hP 0 rfl rfl 1 (by decide) (hts (.fieldLink RX7 18 "TheLiningsInIt" "now" "LTheLiningsInIt$Jacket;") (List.mem_of_getElem? (i := 2) rfl)) (fun _ h9 => h9) rfl dX7_status_85 ?_
          refine va_get (D := D) (ci := 0) (v := .ref z0) (C := RX0) (T := TX0) (N := 9) hx hb hts hi_X7_status_0 hown hK hP 2 rfl rfl 0 (by decide) (hts (.fieldLink RX7 140 "TheLiningsInIt$Jacket" "zip" "LTheLiningsInIt$Zip;") (List.mem_of_getElem? (i := 4) rfl)) (fun _ h9 => h9) rfl dX7_status_88 ?_
          refine va_get (D := D) (ci := 6) (v := .int sz) (C := RX6) (T := TX6) (N := 5) hx hb hts hi_X7_status_6 hown hK hP 3 rfl rfl 2 (by decide) (hts (.fieldLink RX7 144 "TheLiningsInIt$Zip" "size" "I") (List.mem_of_getElem? (i := 5) rfl)) (fun _ h9 => h9) rfl dX7_status_91 ?_
          exact W.iret (v := sz) hx hb hr (fun t ht hW => ⟨sz, rfl, trivial, ht⟩) (fun q hq => by cases hq) dX7_status_94
        · have kc2 : (2 : Int32).toInt = 2 := by decide
          refine lv_tableIn (tgt := 95) hx hb dX7_status_22 (by decide) (by decide) rfl (by decide) ?_
          refine lv_aload_n hx hb dX7_status_95 rfl (lv_at hl 0 rfl) ?_
          refine va_get (D := D) (ci := 7) (v := .ref j0) (C := RX7) (T := TX7) (N := 9) hx hb hts hi_X7_status_7 hown hK hP 0 rfl rfl 1 (by decide) (hts (.fieldLink RX7 18 "TheLiningsInIt" "now" "LTheLiningsInIt$Jacket;") (List.mem_of_getElem? (i := 2) rfl)) (fun _ h9 => h9) rfl dX7_status_96 ?_
          refine va_get (D := D) (ci := 0) (v := .ref z0) (C := RX0) (T := TX0) (N := 9) hx hb hts hi_X7_status_0 hown hK hP 2 rfl rfl 0 (by decide) (hts (.fieldLink RX7 140 "TheLiningsInIt$Jacket" "zip" "LTheLiningsInIt$Zip;") (List.mem_of_getElem? (i := 4) rfl)) (fun _ h9 => h9) rfl dX7_status_99 ?_
          refine va_get (D := D) (ci := 6) (v := .int at_) (C := RX6) (T := TX6) (N := 5) hx hb hts hi_X7_status_6 hown hK hP 3 rfl rfl 3 (by decide) (hts (.fieldLink RX7 275 "TheLiningsInIt$Zip" "at" "I") (List.mem_of_getElem? (i := 6) rfl)) (fun _ h9 => h9) rfl dX7_status_102 ?_
          exact W.iret (v := at_) hx hb hr (fun t ht hW => ⟨at_, rfl, trivial, ht⟩) (fun q hq => by cases hq) dX7_status_105
        · have kc3 : (3 : Int32).toInt = 3 := by decide
          refine lv_tableIn (tgt := 106) hx hb dX7_status_22 (by decide) (by decide) rfl (by decide) ?_
          refine lv_aload_n hx hb dX7_status_106 rfl (lv_at hl 0 rfl) ?_
          refine va_get (D := D) (ci := 7) (v := .ref j0) (C := RX7) (T := TX7) (N := 9) hx hb hts hi_X7_status_7 hown hK hP 0 rfl rfl 1 (by decide) (hts (.fieldLink RX7 18 "TheLiningsInIt" "now" "LTheLiningsInIt$Jacket;") (List.mem_of_getElem? (i := 2) rfl)) (fun _ h9 => h9) rfl dX7_status_107 ?_
          refine va_get (D := D) (ci := 0) (v := .int de) (C := RX0) (T := TX0) (N := 9) hx hb hts hi_X7_status_0 hown hK hP 2 rfl rfl 4 (by decide) (hts (.fieldLink RX7 199 "TheLiningsInIt$Jacket" "depth" "I") (List.mem_of_getElem? (i := 7) rfl)) (fun _ h9 => h9) rfl dX7_status_110 ?_
          exact W.iret (v := de) hx hb hr (fun t ht hW => ⟨de, rfl, trivial, ht⟩) (fun q hq => by cases hq) dX7_status_113
        · have kc4 : (4 : Int32).toInt = 4 := by decide
          refine lv_tableIn (tgt := 114) hx hb dX7_status_22 (by decide) (by decide) rfl (by decide) ?_
          refine lv_aload_n hx hb dX7_status_114 rfl (lv_at hl 0 rfl) ?_
          refine va_get (D := D) (ci := 7) (v := .ref j0) (C := RX7) (T := TX7) (N := 9) hx hb hts hi_X7_status_7 hown hK hP 0 rfl rfl 1 (by decide) (hts (.fieldLink RX7 18 "TheLiningsInIt" "now" "LTheLiningsInIt$Jacket;") (List.mem_of_getElem? (i := 2) rfl)) (fun _ h9 => h9) rfl dX7_status_115 ?_
          refine va_get (D := D) (ci := 0) (v := .int tr) (C := RX0) (T := TX0) (N := 9) hx hb hts hi_X7_status_0 hown hK hP 2 rfl rfl 5 (by decide) (hts (.fieldLink RX7 304 "TheLiningsInIt$Jacket" "torn" "I") (List.mem_of_getElem? (i := 8) rfl)) (fun _ h9 => h9) rfl dX7_status_118 ?_
          exact W.iret (v := tr) hx hb hr (fun t ht hW => ⟨tr, rfl, trivial, ht⟩) (fun q hq => by cases hq) dX7_status_121
        · have kc5 : (5 : Int32).toInt = 5 := by decide
          refine lv_tableIn (tgt := 122) hx hb dX7_status_22 (by decide) (by decide) rfl (by decide) ?_
          refine lv_aload_n hx hb dX7_status_122 rfl (lv_at hl 0 rfl) ?_
          refine va_get (D := D) (ci := 7) (v := .ref j0) (C := RX7) (T := TX7) (N := 9) hx hb hts hi_X7_status_7 hown hK hP 0 rfl rfl 1 (by decide) (hts (.fieldLink RX7 18 "TheLiningsInIt" "now" "LTheLiningsInIt$Jacket;") (List.mem_of_getElem? (i := 2) rfl)) (fun _ h9 => h9) rfl dX7_status_123 ?_
          refine va_get (D := D) (ci := 0) (v := .int se) (C := RX0) (T := TX0) (N := 9) hx hb hts hi_X7_status_0 hown hK hP 2 rfl rfl 6 (by decide) (hts (.fieldLink RX7 202 "TheLiningsInIt$Jacket" "seconds" "I") (List.mem_of_getElem? (i := 9) rfl)) (fun _ h9 => h9) rfl dX7_status_126 ?_
          exact W.iret (v := se) hx hb hr (fun t ht hW => ⟨se, rfl, trivial, ht⟩) (fun q hq => by cases hq) dX7_status_129
        · have kc6 : (6 : Int32).toInt = 6 := by decide
          refine lv_tableIn (tgt := 130) hx hb dX7_status_22 (by decide) (by decide) rfl (by decide) ?_
          refine lv_aload_n hx hb dX7_status_130 rfl (lv_at hl 0 rfl) ?_
          refine va_get (D := D) (ci := 7) (v := .ref j0) (C := RX7) (T := TX7) (N := 9) hx hb hts hi_X7_status_7 hown hK hP 0 rfl rfl 1 (by decide) (hts (.fieldLink RX7 18 "TheLiningsInIt" "now" "LTheLiningsInIt$Jacket;") (List.mem_of_getElem? (i := 2) rfl)) (fun _ h9 => h9) rfl dX7_status_131 ?_
          refine va_get (D := D) (ci := 0) (v := .int hu) (C := RX0) (T := TX0) (N := 9) hx hb hts hi_X7_status_0 hown hK hP 2 rfl rfl 7 (by decide) (hts (.fieldLink RX7 116 "TheLiningsInIt$Jacket" "hurry" "I") (List.mem_of_getElem? (i := 10) rfl)) (fun _ h9 => h9) rfl dX7_status_134 ?_
          exact W.iret (v := hu) hx hb hr (fun t ht hW => ⟨hu, rfl, trivial, ht⟩) (fun q hq => by cases hq) dX7_status_137
        · have kc7 : (7 : Int32).toInt = 7 := by decide
          refine lv_tableIn (tgt := 138) hx hb dX7_status_22 (by decide) (by decide) rfl (by decide) ?_
          refine lv_aload_n hx hb dX7_status_138 rfl (lv_at hl 0 rfl) ?_
          refine va_get (D := D) (ci := 7) (v := .ref j0) (C := RX7) (T := TX7) (N := 9) hx hb hts hi_X7_status_7 hown hK hP 0 rfl rfl 1 (by decide) (hts (.fieldLink RX7 18 "TheLiningsInIt" "now" "LTheLiningsInIt$Jacket;") (List.mem_of_getElem? (i := 2) rfl)) (fun _ h9 => h9) rfl dX7_status_139 ?_
          refine va_get (D := D) (ci := 0) (v := .ref z0) (C := RX0) (T := TX0) (N := 9) hx hb hts hi_X7_status_0 hown hK hP 2 rfl rfl 0 (by decide) (hts (.fieldLink RX7 140 "TheLiningsInIt$Jacket" "zip" "LTheLiningsInIt$Zip;") (List.mem_of_getElem? (i := 4) rfl)) (fun _ h9 => h9) rfl dX7_status_142 ?_
          refine va_get (D := D) (ci := 6) (v := .int gp) (C := RX6) (T := TX6) (N := 5) hx hb hts hi_X7_status_6 hown hK hP 3 rfl rfl 4 (by decide) (hts (.fieldLink RX7 307 "TheLiningsInIt$Zip" "gap" "I") (List.mem_of_getElem? (i := 11) rfl)) (fun _ h9 => h9) rfl dX7_status_145 ?_
          exact W.iret (v := gp) hx hb hr (fun t ht hW => ⟨gp, rfl, trivial, ht⟩) (fun q hq => by cases hq) dX7_status_148
        · have kc8 : (8 : Int32).toInt = 8 := by decide
          refine lv_tableIn (tgt := 149) hx hb dX7_status_22 (by decide) (by decide) rfl (by decide) ?_
          refine lv_aload_n hx hb dX7_status_149 rfl (lv_at hl 0 rfl) ?_
          refine va_get (D := D) (ci := 7) (v := .ref j0) (C := RX7) (T := TX7) (N := 9) hx hb hts hi_X7_status_7 hown hK hP 0 rfl rfl 1 (by decide) (hts (.fieldLink RX7 18 "TheLiningsInIt" "now" "LTheLiningsInIt$Jacket;") (List.mem_of_getElem? (i := 2) rfl)) (fun _ h9 => h9) rfl dX7_status_150 ?_
          refine va_get (D := D) (ci := 0) (v := .int sd) (C := RX0) (T := TX0) (N := 9) hx hb hts hi_X7_status_0 hown hK hP 2 rfl rfl 8 (by decide) (hts (.fieldLink RX7 285 "TheLiningsInIt$Jacket" "seedNow" "I") (List.mem_of_getElem? (i := 12) rfl)) (fun _ h9 => h9) rfl dX7_status_153 ?_
          exact W.iret (v := sd) hx hb hr (fun t ht hW => ⟨sd, rfl, trivial, ht⟩) (fun q hq => by cases hq) dX7_status_156
        · have kc9 : (9 : Int32).toInt = 9 := by decide
          refine lv_tableIn (tgt := 157) hx hb dX7_status_22 (by decide) (by decide) rfl (by decide) ?_
          refine lv_aload_n hx hb dX7_status_157 rfl (lv_at hl 0 rfl) ?_
          refine va_get (D := D) (ci := 7) (v := .ref mv) (C := RX7) (T := TX7) (N := 9) hx hb hts hi_X7_status_7 hown hK hP 0 rfl rfl 5 (by decide) (hts (.fieldLink RX7 42 "TheLiningsInIt" "moves" "LTheLiningsInIt$Moves;") (List.mem_of_getElem? (i := 13) rfl)) (fun _ h9 => h9) rfl dX7_status_158 ?_
          refine va_get (D := D) (ci := 1) (v := .int mr) (C := RX1) (T := TX1) (N := 5) hx hb hts hi_X7_status_1 hown hK hP 4 rfl rfl 1 (by decide) (hts (.fieldLink RX7 288 "TheLiningsInIt$Moves" "ran" "I") (List.mem_of_getElem? (i := 14) rfl)) (fun _ h9 => h9) rfl dX7_status_161 ?_
          exact W.iret (v := mr) hx hb hr (fun t ht hW => ⟨mr, rfl, trivial, ht⟩) (fun q hq => by cases hq) dX7_status_164
    · exact absurd c_7 (by decide)
  · refine lv_if_eq (tgt := 21) hx hb dX7_status_8 (by decide) (fun c_8 => ?_) (fun c_8 => ?_)
    · refine lv_iload_n hx hb dX7_status_21 rfl (lv_at hl 1 rfl) ?_
      by_cases hsp : w.toInt < 0 ∨ 9 < w.toInt
      · refine lv_tableOut (tgt := 165) hx hb dX7_status_22 hsp (by decide) ?_
        refine lv_iconst (v := (-1)) hx hb dX7_status_165 (by decide) ?_
        exact W.iret (v := (-1)) hx hb hr (fun t ht hW => ⟨(-1), rfl, trivial, ht⟩) (fun q hq => by cases hq) dX7_status_166
      · exfalso; omega
    · exact absurd c_8 (by decide)
  · refine lv_if_eq (tgt := 21) hx hb dX7_status_8 (by decide) (fun c_9 => ?_) (fun c_9 => ?_)
    · exact absurd c_9 (by decide)
    · refine lv_aload_n hx hb dX7_status_11 rfl (lv_at hl 0 rfl) ?_
      refine va_get (D := D) (ci := 7) (v := .ref xr) (C := RX7) (T := TX7) (N := 9) hx hb hts hi_X7_status_7 hown hK hP 0 rfl rfl 6 (by decide) (hts (.fieldLink RX7 46 "TheLiningsInIt" "refusals" "[I") (List.mem_of_getElem? (i := 1) rfl)) (fun _ h9 => h9) rfl dX7_status_12 ?_
      refine lv_iload_n hx hb dX7_status_15 rfl (lv_at hl 1 rfl) ?_
      refine lv_bipush (v := 10) hx hb dX7_status_16 (by decide) ?_
      refine lv_isub hx hb dX7_status_18 ?_
      refine lv_topi (fun x_10 ex_10 => ?_)
      have qx_10 : x_10.toInt = w.toInt - 10 := by rw [ex_10]; exact zf_sub rfl (by decide) (by omega) (by omega)
      refine va_iald hx hb hK hP 1 0 rfl rfl (zf_in (by omega) (by omega)) dX7_status_19 ?_
      refine lv_topi (fun x_11 ex_11 => ?_)
      exact W.iret (v := x_11) hx hb hr (fun t ht hW => ⟨x_11, rfl, trivial, ht⟩) (fun q hq => by cases hq) dX7_status_20

