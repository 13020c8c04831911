theorem hi_X3_stands_3 : ∀ w ∈ u_ws RX3 TX3 8, w ∈ wsX3_stands := fun w h => (goodIn_r (u_ws RX3 TX3 8) [3, 4, 5, 6, 7, 8, 9, 10] rfl (by decide +kernel) w h).1
set_option maxHeartbeats 4000000 in
set_option maxRecDepth 100000 in
theorem c_R_stands (l : Launch) (D : va_G) (cI cJ cZ cP cS : ClassId) (po : zPool) (rd ri rl : Nat) (rz rc rp rf rt ru : Int32) (fl : Nat → Int32) (i ch : Int32) (hy0 : 0 ≤ rz.toInt) (hy1 : rz.toInt ≤ 160) (hy2 : 0 ≤ rc.toInt) (hy3 : rc.toInt ≤ 40) (hy4 : 0 ≤ rp.toInt) (hy5 : rp.toInt ≤ 160) (hy6 : rp.toInt ≤ rz.toInt) (hy7 : (-1) ≤ rf.toInt) (hy8 : rf.toInt ≤ 160) (hy9 : 0 ≤ rt.toInt) (hy10 : rt.toInt ≤ 40) (hy11 : 0 ≤ ru.toInt) (hy12 : ru.toInt ≤ 8) : Met l yX3_stands wsX3_stands ({ frames := 0, cells := 0, slots := 0, locals := 0 }) (va_Pc [.ref rd, .int i, .int ch] (zR D (zKT cI cJ cZ cP cS) po [(rd, .inr (3, [.ref ri, .ref rl, .int rz, .int rc, .int rp, .int rf, .int rt, .int ru])), (rl, .inl (cI, 160, .inl fl))])) (vp_Si (fun r => 0 ≤ r.toInt ∧ r.toInt ≤ 1 ∧ ((r.toInt = 1 → 0 ≤ i.toInt ∧ i.toInt < rz.toInt)) ∧ ((r = 1 ↔ (0 ≤ i.toInt ∧ i.toInt < rz.toInt ∧ fl i.toNatClampNeg = ch))))) 0 0 (fun _ => False) := by
  refine Met.ofW (cc := cX3_stands) (maxL := 3) (ret := (some .boolean)) (by decide) rfl ?_
  intro p e s m args below meth c s₁ B hml hv
  obtain ⟨rfl, hP, hK, hN, hZ⟩ := hv
  have hx := B.exec
  have hb := B.bytes
  have hr := B.returns
  have hts := atoms_spec (ws := wsX3_stands) B.pre
  have hown : s.vm.findClass RX3 = some m.cls := findClass_of_methodNamed B.named
  have hlocks := B.notSynchronized
  have hl := lv_entry ([.ref rd, .int i, .int ch]) (n := 3) (Nat.le_of_ble_eq_true rfl)
  rw [lg_entry_eq]
  generalize (lg_sl ([.ref rd, .int i, .int ch]) ++ List.replicate (3 - (lg_sl ([.ref rd, .int i, .int ch])).length) Slot.unset).toArray = ls at hl ⊢
  replace hl : lv_has ls 3 [(0, .ref rd), (1, .int i), (2, .int ch)] := hl
  refine lv_iload_n hx hb dX3_stands_0 rfl (lv_at hl 1 rfl) ?_
  refine lv_if_lt (tgt := 26) hx hb dX3_stands_1 (by decide) (fun c_1 => ?_) (fun c_1 => ?_)
  · have fc_1 : i.toInt < 0 := zf_lt c_1 rfl (by decide)
    refine lv_iconst (v := 0) hx hb dX3_stands_26 (by decide) ?_
    exact W.zret (v := 0) hx hb hr (by decide) (fun t ht hW => ⟨0, rfl, ⟨by decide, by decide, (show ((0 : Int32).toInt = 1 → 0 ≤ i.toInt ∧ i.toInt < rz.toInt) from by first | omega | exact fun h => absurd h (by decide)), (show ((0 : Int32) = 1 ↔ (0 ≤ i.toInt ∧ i.toInt < rz.toInt ∧ fl i.toNatClampNeg = ch)) from by exact ⟨fun h => absurd h (by decide), fun h => by have h1 := h.1; have h2 := h.2.1; omega⟩)⟩, ht⟩) (fun q hq => by cases hq) dX3_stands_27
  · have fc_1 : 0 ≤ i.toInt := zf_nlt c_1 rfl (by decide)
    refine lv_iload_n hx hb dX3_stands_4 rfl (lv_at hl 1 rfl) ?_
    refine lv_aload_n hx hb dX3_stands_5 rfl (lv_at hl 0 rfl) ?_
    refine va_get (D := D) (ci := 3) (v := .int rz) (C := RX3) (T := TX3) (N := 8) hx hb hts hi_X3_stands_3 hown hK hP 0 rfl rfl 2 (by decide) (hts (.fieldLink RX3 18 "TheLiningsInIt$Reader" "size" "I") (List.mem_of_getElem? (i := 1) rfl)) (fun _ h9 => h9) rfl dX3_stands_6 ?_
    refine lv_icmp_ge (tgt := 26) hx hb dX3_stands_9 (by decide) (fun c_2 => ?_) (fun c_2 => ?_)
    · have fc_2 : rz.toInt ≤ i.toInt := zf_le c_2 rfl rfl
      refine lv_iconst (v := 0) hx hb dX3_stands_26 (by decide) ?_
      exact W.zret (v := 0) hx hb hr (by decide) (fun t ht hW => ⟨0, rfl, ⟨by decide, by decide, (show ((0 : Int32).toInt = 1 → 0 ≤ i.toInt ∧ i.toInt < rz.toInt) from by first | omega | exact fun h => absurd h (by decide)), (show ((0 : Int32) = 1 ↔ (0 ≤ i.toInt ∧ i.toInt < rz.toInt ∧ fl i.toNatClampNeg = ch)) from by exact ⟨fun h => absurd h (by decide), fun h => by have h1 := h.1; have h2 := h.2.1; omega⟩)⟩, ht⟩) (fun q hq => by cases hq) dX3_stands_27
    · have fc_2 : i.toInt < rz.toInt := zf_nle c_2 rfl rfl
      refine lv_aload_n hx hb dX3_stands_12 rfl (lv_at hl 0 rfl) ?_
      refine va_get (D := D) (ci := 3) (v := .ref rl) (C := RX3) (T := TX3) (N := 8) hx hb hts hi_X3_stands_3 hown hK hP 0 rfl rfl 1 (by decide) (hts (.fieldLink RX3 15 "TheLiningsInIt$Reader" "letters" "[I") (List.mem_of_getElem? (i := 2) rfl)) (fun _ h9 => h9) rfl dX3_stands_13 ?_
      refine lv_iload_n hx hb dX3_stands_16 rfl (lv_at hl 1 rfl) ?_
      refine va_iald hx hb hK hP 1 0 rfl rfl (zf_in (by omega) (by omega)) dX3_stands_17 ?_
      refine lv_topi (fun x_3 ex_3 => ?_)
      refine lv_iload_n hx hb dX3_stands_18 rfl (lv_at hl 2 rfl) ?_
      refine lv_icmp_ne (tgt := 26) hx hb dX3_stands_19 (by decide) (fun c_4 => ?_) (fun c_4 => ?_)
      · have fc_4 : x_3.toInt ≠ ch.toInt := zf_ne c_4 rfl rfl
        refine lv_iconst (v := 0) hx hb dX3_stands_26 (by decide) ?_
        exact W.zret (v := 0) hx hb hr (by decide) (fun t ht hW => ⟨0, rfl, ⟨by decide, by decide, (show ((0 : Int32).toInt = 1 → 0 ≤ i.toInt ∧ i.toInt < rz.toInt) from by first | omega | exact fun h => absurd h (by decide)), (show ((0 : Int32) = 1 ↔ (0 ≤ i.toInt ∧ i.toInt < rz.toInt ∧ fl i.toNatClampNeg = ch)) from by exact ⟨fun h => absurd h (by decide), fun h => absurd (ex_3.trans h.2.2) c_4⟩)⟩, ht⟩) (fun q hq => by cases hq) dX3_stands_27
      · have fc_4 : x_3.toInt = ch.toInt := zf_eq c_4 rfl rfl
        refine lv_iconst (v := 1) hx hb dX3_stands_22 (by decide) ?_
        refine lv_goto (tgt := 27) hx hb dX3_stands_23 (by decide) ?_
        exact W.zret (v := 1) hx hb hr (by decide) (fun t ht hW => ⟨1, rfl, ⟨by decide, by decide, (show ((1 : Int32).toInt = 1 → 0 ≤ i.toInt ∧ i.toInt < rz.toInt) from by first | omega | exact fun h => absurd h (by decide)), (show ((1 : Int32) = 1 ↔ (0 ≤ i.toInt ∧ i.toInt < rz.toInt ∧ fl i.toNatClampNeg = ch)) from by exact ⟨fun _ => ⟨by omega, by omega, ex_3.symm.trans (by first | exact c_4 | exact Decidable.not_not.mp c_4)⟩, fun _ => rfl⟩)⟩, ht⟩) (fun q hq => by cases hq) dX3_stands_27
theorem hi_X3_expect_3 : ∀ w ∈ u_ws RX3 TX3 8, w ∈ wsX3_expect := fun w h => (goodIn_r (u_ws RX3 TX3 8) [10, 11, 12, 13, 14, 15, 16, 17] rfl (by decide +kernel) w h).1
theorem hi_X3_lettersStanding_3 : ∀ w ∈ u_ws RX3 TX3 8, w ∈ wsX3_lettersStanding := fun w h => (goodIn_r (u_ws RX3 TX3 8) [58, 59, 60, 61, 62, 63, 64, 65] rfl (by decide +kernel) w h).1
theorem hi_X3_takeWord_3 : ∀ w ∈ u_ws RX3 TX3 8, w ∈ wsX3_takeWord := fun w h => (goodIn_r (u_ws RX3 TX3 8) [4, 5, 6, 7, 8, 9, 10, 11] rfl (by decide +kernel) w h).1
set_option maxHeartbeats 4000000 in
set_option maxRecDepth 100000 in
theorem c_R_wordAt (l : Launch) (D : va_G) (cI cJ cZ cP cS : ClassId) (po : zPool) (w : Int32) (hy0 : 0 ≤ w.toInt) (hy1 : w.toInt ≤ 9) : Met l yX3_wordAt wsX3_wordAt ({ frames := 0, cells := 0, slots := 0, locals := 0 }) (va_Pc [.int w] (zR D (zKT cI cJ cZ cP cS) po [])) (va_Sq (fun r => (∃ i : Nat, i < 10 ∧ (i : Int) = w.toInt ∧ r = some (po.2.1 i)))) 0 0 (fun _ => False) := by
  refine Met.ofW (cc := cX3_wordAt) (maxL := 1) (ret := (some (.object "java/lang/String"))) (by decide) rfl ?_
  intro p e s m args below meth c s₁ B hml hv
  obtain ⟨rfl, hP, hK, hN, hZ⟩ := hv
  have hx := B.exec
  have hb := B.bytes
  have hr := B.returns
  have hts := atoms_spec (ws := wsX3_wordAt) B.pre
  have hown : s.vm.findClass RX3 = some m.cls := findClass_of_methodNamed B.named
  have hlocks := B.notSynchronized
  have hl := lv_entry ([.int w]) (n := 1) (Nat.le_of_ble_eq_true rfl)
  rw [lg_entry_eq]
  generalize (lg_sl ([.int w]) ++ List.replicate (1 - (lg_sl ([.int w])).length) Slot.unset).toArray = ls at hl ⊢
  replace hl : lv_has ls 1 [(0, .int w)] := hl
  refine lv_iload_n hx hb dX3_wordAt_0 rfl (lv_at hl 0 rfl) ?_
  have hsp : w = 0 ∨ w = 1 ∨ w = 2 ∨ w = 3 ∨ w = 4 ∨ w = 5 ∨ w = 6 ∨ w = 7 ∨ w = 8 ∨ w = 9 := by
    rcases (show w.toInt = 0 ∨ w.toInt = 1 ∨ w.toInt = 2 ∨ w.toInt = 3 ∨ w.toInt = 4 ∨ w.toInt = 5 ∨ w.toInt = 6 ∨ w.toInt = 7 ∨ w.toInt = 8 ∨ w.toInt = 9 by omega) with h9 | h9 | h9 | h9 | h9 | h9 | h9 | h9 | h9 | h9
    · refine Or.inl ?_; exact zf_val h9 (by decide)
    · refine Or.inr (Or.inl ?_); exact zf_val h9 (by decide)
    · refine Or.inr (Or.inr (Or.inl ?_)); exact zf_val h9 (by decide)
    · refine Or.inr (Or.inr (Or.inr (Or.inl ?_))); exact zf_val h9 (by decide)
    · refine Or.inr (Or.inr (Or.inr (Or.inr (Or.inl ?_)))); exact zf_val h9 (by decide)
    · refine Or.inr (Or.inr (Or.inr (Or.inr (Or.inr (Or.inl ?_))))); exact zf_val h9 (by decide)
    · refine Or.inr (Or.inr (Or.inr (Or.inr (Or.inr (Or.inr (Or.inl ?_)))))); exact zf_val h9 (by decide)
    · refine Or.inr (Or.inr (Or.inr (Or.inr (Or.inr (Or.inr (Or.inr (Or.inl ?_))))))); exact zf_val h9 (by decide)
    · refine Or.inr (Or.inr (Or.inr (Or.inr (Or.inr (Or.inr (Or.inr (Or.inr (Or.inl ?_)))))))); exact zf_val h9 (by decide)
    · refine Or.inr (Or.inr (Or.inr (Or.inr (Or.inr (Or.inr (Or.inr (Or.inr (Or.inr (?_))))))))); exact zf_val h9 (by decide)
  rcases hsp with rfl | rfl | rfl | rfl | rfl | rfl | rfl | rfl | rfl | rfl
  · have kc0 : (0 : Int32).toInt = 0 := by decide
    refine lv_tableIn (tgt := 52) hx hb dX3_wordAt_1 (by decide) (by decide) rfl (by decide) ?_
    refine va_ldcS (own := RX3) (index := 113) hx hb hown (hZ.2.2.2.1 0 (by decide)) dX3_wordAt_52 ?_
    exact W.aret (v := .ref (po.2.1 0)) hx hb hr (Or.inl ⟨_, rfl⟩) (Or.inr ⟨_, rfl⟩) (fun t ht hW => ⟨some (po.2.1 0), rfl, ⟨0, by decide, by decide, rfl⟩, ht⟩) (fun q hq => by cases hq) dX3_wordAt_54
  · have kc1 : (1 : Int32).toInt = 1 := by decide
    refine lv_tableIn (tgt := 55) hx hb dX3_wordAt_1 (by decide) (by decide) rfl (by decide) ?_
    refine va_ldcS (own := RX3) (index := 114) hx hb hown (hZ.2.2.2.1 1 (by decide)) dX3_wordAt_55 ?_
    exact W.aret (v := .ref (po.2.1 1)) hx hb hr (Or.inl ⟨_, rfl⟩) (Or.inr ⟨_, rfl⟩) (fun t ht hW => ⟨some (po.2.1 1), rfl, ⟨1, by decide, by decide, rfl⟩, ht⟩) (fun q hq => by cases hq) dX3_wordAt_57
  · have kc2 : (2 : Int32).toInt = 2 := by decide
    refine lv_tableIn (tgt := 58) hx hb dX3_wordAt_1 (by decide) (by decide) rfl (by decide) ?_
    refine va_ldcS (own := RX3) (index := 116) hx hb hown (hZ.2.2.2.1 2 (by decide)) dX3_wordAt_58 ?_
    exact W.aret (v := .ref (po.2.1 2)) hx hb hr (Or.inl ⟨_, rfl⟩) (Or.inr ⟨_, rfl⟩) (fun t ht hW => ⟨some (po.2.1 2), rfl, ⟨2, by decide, by decide, rfl⟩, ht⟩) (fun q hq => by cases hq) dX3_wordAt_60
  · have kc3 : (3 : Int32).toInt = 3 := by decide
    refine lv_tableIn (tgt := 61) hx hb dX3_wordAt_1 (by decide) (by decide) rfl (by decide) ?_
    refine va_ldcS (own := RX3) (index := 118) hx hb hown (hZ.2.2.2.1 3 (by decide)) dX3_wordAt_61 ?_
    exact W.aret (v := .ref (po.2.1 3)) hx hb hr (Or.inl ⟨_, rfl⟩) (Or.inr ⟨_, rfl⟩) (fun t ht hW => ⟨some (po.2.1 3), rfl, ⟨3, by decide, by decide, rfl⟩, ht⟩) (fun q hq => by cases hq) dX3_wordAt_63
  · have kc4 : (4 : Int32).toInt = 4 := by decide
    refine lv_tableIn (tgt := 64) hx hb dX3_wordAt_1 (by decide) (by decide) rfl (by decide) ?_
    refine va_ldcS (own := RX3) (index := 120) hx hb hown (hZ.2.2.2.1 4 (by decide)) dX3_wordAt_64 ?_
    exact W.aret (v := .ref (po.2.1 4)) hx hb hr (Or.inl ⟨_, rfl⟩) (Or.inr ⟨_, rfl⟩) (fun t ht hW => ⟨some (po.2.1 4), rfl, ⟨4, by decide, by decide, rfl⟩, ht⟩) (fun q hq => by cases hq) dX3_wordAt_66
  · have kc5 : (5 : Int32).toInt = 5 := by decide
    refine lv_tableIn (tgt := 67) hx hb dX3_wordAt_1 (by decide) (by decide) rfl (by decide) ?_
    refine va_ldcS (own := RX3) (index := 122) hx hb hown (hZ.2.2.2.1 5 (by decide)) dX3_wordAt_67 ?_
    exact W.aret (v := .ref (po.2.1 5)) hx hb hr (Or.inl ⟨_, rfl⟩) (Or.inr ⟨_, rfl⟩) (fun t ht hW => ⟨some (po.2.1 5), rfl, ⟨5, by decide, by decide, rfl⟩, ht⟩) (fun q hq => by cases hq) dX3_wordAt_69
  · have kc6 : (6 : Int32).toInt = 6 := by decide
    refine lv_tableIn (tgt := 70) hx hb dX3_wordAt_1 (by decide) (by decide) rfl (by decide) ?_
    refine va_ldcS (own := RX3) (index := 124) hx hb hown (hZ.2.2.2.1 6 (by decide)) dX3_wordAt_70 ?_
    exact W.aret (v := .ref (po.2.1 6)) hx hb hr (Or.inl ⟨_, rfl⟩) (Or.inr ⟨_, rfl⟩) (fun t ht hW => ⟨some (po.2.1 6), rfl, ⟨6, by decide, by decide, rfl⟩, ht⟩) (fun q hq => by cases hq) dX3_wordAt_72
  · have kc7 : (7 : Int32).toInt = 7 := by decide
    refine lv_tableIn (tgt := 73) hx hb dX3_wordAt_1 (by decide) (by decide) rfl (by decide) ?_
    refine va_ldcS (own := RX3) (index := 126) hx hb hown (hZ.2.2.2.1 7 (by decide)) dX3_wordAt_73 ?_
    exact W.aret (v := .ref (po.2.1 7)) hx hb hr (Or.inl ⟨_, rfl⟩) (Or.inr ⟨_, rfl⟩) (fun t ht hW => ⟨some (po.2.1 7), rfl, ⟨7, by decide, by decide, rfl⟩, ht⟩) (fun q hq => by cases hq) dX3_wordAt_75
  · have kc8 : (8 : Int32).toInt = 8 := by decide
    refine lv_tableIn (tgt := 76) hx hb dX3_wordAt_1 (by decide) (by decide) rfl (by decide) ?_
    refine va_ldcS (own := RX3) (index := 128) hx hb hown (hZ.2.2.2.1 8 (by decide)) dX3_wordAt_76 ?_
    exact W.aret (v := .ref (po.2.1 8)) hx hb hr (Or.inl ⟨_, rfl⟩) (Or.inr ⟨_, rfl⟩) (fun t ht hW => ⟨some (po.2.1 8), rfl, ⟨8, by decide, by decide, rfl⟩, ht⟩) (fun q hq => by cases hq) dX3_wordAt_78
  · have kc9 : (9 : Int32).toInt = 9 := by decide
    refine lv_tableOut (tgt := 79) hx hb dX3_wordAt_1 (by decide) (by decide) ?_
    refine va_ldcS (own := RX3) (index := 130) hx hb hown (hZ.2.2.2.1 9 (by decide)) dX3_wordAt_79 ?_
    exact W.aret (v := .ref (po.2.1 9)) hx hb hr (Or.inl ⟨_, rfl⟩) (Or.inr ⟨_, rfl⟩) (fun t ht hW => ⟨some (po.2.1 9), rfl, ⟨9, by decide, by decide, rfl⟩, ht⟩) (fun q hq => by cases hq) dX3_wordAt_81
theorem hi_X3_readWord_3 : ∀ w ∈ u_ws RX3 TX3 8, w ∈ wsX3_readWord := fun w h => (goodIn_r (u_ws RX3 TX3 8) [75, 76, 77, 78, 79, 80, 81, 82] rfl (by decide +kernel) w h).1
set_option maxHeartbeats 4000000 in
set_option maxRecDepth 100000 in
theorem c_R_isDigit (l : Launch) (D : va_G) (cI cJ cZ cP cS : ClassId) (po : zPool) (i : Int32)  : Met l yX3_isDigit wsX3_isDigit ({ frames := 0, cells := 0, slots := 0, locals := 0 }) (va_Pc [.int i] (zR D (zKT cI cJ cZ cP cS) po [])) (vp_Si (fun r => (r = 0 ∧ i.toInt < 48) ∨ (r = 0 ∧ 48 ≤ i.toInt ∧ 57 < i.toInt) ∨ (r = 1 ∧ 48 ≤ i.toInt ∧ i.toInt ≤ 57))) 0 0 (fun _ => False) := by
  refine Met.ofW (cc := cX3_isDigit) (maxL := 1) (ret := (some .boolean)) (by decide) rfl ?_
  intro p e s m args below meth c s₁ B hml hv
  obtain ⟨rfl, hP, hK, hN, hZ⟩ := hv
  have hx := B.exec
  have hb := B.bytes
  have hr := B.returns
  have hts := atoms_spec (ws := wsX3_isDigit) B.pre
  have hown : s.vm.findClass RX3 = some m.cls := findClass_of_methodNamed B.named
  have hlocks := B.notSynchronized
  have hl := lv_entry ([.int i]) (n := 1) (Nat.le_of_ble_eq_true rfl)
  rw [lg_entry_eq]
  generalize (lg_sl ([.int i]) ++ List.replicate (1 - (lg_sl ([.int i])).length) Slot.unset).toArray = ls at hl ⊢
  replace hl : lv_has ls 1 [(0, .int i)] := hl
  refine lv_iload_n hx hb dX3_isDigit_0 rfl (lv_at hl 0 rfl) ?_
  refine lv_bipush (v := 48) hx hb dX3_isDigit_1 (by decide) ?_
  refine lv_icmp_lt (tgt := 16) hx hb dX3_isDigit_3 (by decide) (fun c_1 => ?_) (fun c_1 => ?_)
  · have fc_1 : i.toInt < 48 := zf_lt c_1 rfl (by decide)
    refine lv_iconst (v := 0) hx hb dX3_isDigit_16 (by decide) ?_
    exact W.zret (v := 0) hx hb hr (by decide) (fun t ht hW => ⟨0, rfl, Or.inl (⟨rfl, (by first | omega | decide)⟩), ht⟩) (fun q hq => by cases hq) dX3_isDigit_17
  · have fc_1 : 48 ≤ i.toInt := zf_nlt c_1 rfl (by decide)
    refine lv_iload_n hx hb dX3_isDigit_6 rfl (lv_at hl 0 rfl) ?_
    refine lv_bipush (v := 57) hx hb dX3_isDigit_7 (by decide) ?_
    refine lv_icmp_gt (tgt := 16) hx hb dX3_isDigit_9 (by decide) (fun c_2 => ?_) (fun c_2 => ?_)
    · have fc_2 : 57 < i.toInt := zf_lt c_2 (by decide) rfl
      refine lv_iconst (v := 0) hx hb dX3_isDigit_16 (by decide) ?_
      exact W.zret (v := 0) hx hb hr (by decide) (fun t ht hW => ⟨0, rfl, Or.inr (Or.inl (⟨rfl, (by first | omega | decide), (by first | omega | decide)⟩)), ht⟩) (fun q hq => by cases hq) dX3_isDigit_17
    · have fc_2 : i.toInt ≤ 57 := zf_nlt c_2 (by decide) rfl
      refine lv_iconst (v := 1) hx hb dX3_isDigit_12 (by decide) ?_
      refine lv_goto (tgt := 17) hx hb dX3_isDigit_13 (by decide) ?_
      exact W.zret (v := 1) hx hb hr (by decide) (fun t ht hW => ⟨1, rfl, Or.inr (Or.inr (⟨rfl, (by first | omega | decide), (by first | omega | decide)⟩)), ht⟩) (fun q hq => by cases hq) dX3_isDigit_17
theorem hi_X3_readNumber_3 : ∀ w ∈ u_ws RX3 TX3 8, w ∈ wsX3_readNumber := fun w h => (goodIn_r (u_ws RX3 TX3 8) [12, 13, 14, 15, 16, 17, 18, 19] rfl (by decide +kernel) w h).1
