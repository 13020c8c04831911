set_option maxHeartbeats 4000000 in
set_option maxRecDepth 100000 in
theorem c_F_M_isOpen (l : Launch) (D : va_G) (cI cJ cZ cP cS : ClassId) (po : zPool) (m0 mrf mki mpa mta mla msl mco mhe mso msi msh mce mca mwo mnu mte mwa mke mma mth mtr : Nat) (npu nte nat_ nde nto nse nhu nga nsd nfa nba npl nen nnu nwr nra nik : Int32) (gla : Nat → Int32) (t_ : Int32) (hy0 : 0 ≤ npu.toInt) (hy1 : npu.toInt ≤ 8) (hy2 : 4 ≤ nte.toInt) (hy3 : nte.toInt ≤ 40) (hy4 : 0 ≤ nat_.toInt) (hy5 : nat_.toInt ≤ 40) (hy6 : 0 ≤ nde.toInt) (hy7 : nde.toInt ≤ 24) (hy8 : 0 ≤ nhu.toInt) (hy9 : nhu.toInt ≤ 9) (hy10 : 0 ≤ nra.toInt) (hy11 : nra.toInt ≤ 2000) (hy12 : 0 ≤ nik.toInt) (hy13 : nik.toInt ≤ 1) (hy14 : 0 ≤ t_.toInt) (hy15 : t_.toInt ≤ 39) (hp_gla : zRg gla (0) 1) : Met l yX8_isOpen wsX8_isOpen ({ frames := 0, cells := 0, slots := 0, locals := 0 }) (va_Pc [.ref m0, .int t_] (zR D (zKT cI cJ cZ cP cS) po [(zMO m0 npu nte nat_ nde nto nse nhu nga nsd nfa mrf mki mpa mta mla msl mco mhe mso msi msh mce mca mwo mnu mte nba npl nen nnu nwr mwa mke mma mth mtr nra nik), (mla, .inl (cI, 40, .inl gla))])) (vp_Si (fun r => 0 ≤ r.toInt ∧ r.toInt ≤ 1 ∧ ((r.toInt = 1 → zOp gla nte.toInt t_.toInt) ∧ (r.toInt = 0 → ¬ zOp gla nte.toInt t_.toInt)))) 0 0 (fun _ => False) := by
  refine Met.ofW (cc := cX8_isOpen) (maxL := 2) (ret := (some .boolean)) (by decide) rfl ?_
  intro p e s m args below meth c s₁ B hml hv
  obtain ⟨rfl, hP, hK, hN, hZ⟩ := hv
  have hx := B.exec
  have hb := B.bytes
  have hr := B.returns
  have hts := atoms_spec (ws := wsX8_isOpen) B.pre
  have hown : s.vm.findClass RX8 = some m.cls := findClass_of_methodNamed B.named
  have hlocks := B.notSynchronized
  have hl := lv_entry ([.ref m0, .int t_]) (n := 2) (Nat.le_of_ble_eq_true rfl)
  rw [lg_entry_eq]
  generalize (lg_sl ([.ref m0, .int t_]) ++ List.replicate (2 - (lg_sl ([.ref m0, .int t_])).length) Slot.unset).toArray = ls at hl ⊢
  replace hl : lv_has ls 2 [(0, .ref m0), (1, .int t_)] := hl
  refine lv_iload_n hx hb dX8_isOpen_0 rfl (lv_at hl 1 rfl) ?_
  refine lv_iconst (v := 2) hx hb dX8_isOpen_1 (by decide) ?_
  refine lv_iadd hx hb dX8_isOpen_2 ?_
  refine lv_topi (fun x_1 ex_1 => ?_)
  have qx_1 : x_1.toInt = t_.toInt + 2 := by rw [ex_1]; exact zf_add rfl (by decide) (by omega) (by omega)
  refine lv_aload_n hx hb dX8_isOpen_3 rfl (lv_at hl 0 rfl) ?_
  refine va_get (D := D) (ci := 8) (v := .int nte) (C := RX8) (T := TX8) (N := 38) hx hb hts hi_X8_isOpen_8 hown hK hP 0 rfl rfl 1 (by decide) (hts (.fieldLink RX8 7 "TheLiningsInItModel" "teeth" "I") (List.mem_of_getElem? (i := 1) rfl)) (fun _ h9 => h9) rfl dX8_isOpen_4 ?_
  refine lv_icmp_ge (tgt := 48) hx hb dX8_isOpen_7 (by decide) (fun c_2 => ?_) (fun c_2 => ?_)
  · have fc_2 : nte.toInt ≤ x_1.toInt := zf_le c_2 rfl rfl
    refine lv_iconst (v := 0) hx hb dX8_isOpen_48 (by decide) ?_
    exact W.zret (v := 0) hx hb hr (by decide) (fun t ht hW => ⟨0, rfl, ⟨by decide, by decide, (show ((0 : Int32).toInt = 1 → zOp gla nte.toInt t_.toInt) ∧ ((0 : Int32).toInt = 0 → ¬ zOp gla nte.toInt t_.toInt) from by (exact ⟨fun h => absurd h (by decide), fun _ => fun z => by (obtain ⟨⟨z1, z2, z3⟩, ⟨z4, z5, z6⟩, z7, z8, z9⟩ := z; omega)⟩))⟩, ht⟩) (fun q hq => by cases hq) dX8_isOpen_49
  · have fc_2 : x_1.toInt < nte.toInt := zf_nle c_2 rfl rfl
    refine lv_aload_n hx hb dX8_isOpen_10 rfl (lv_at hl 0 rfl) ?_
    refine va_get (D := D) (ci := 8) (v := .ref mla) (C := RX8) (T := TX8) (N := 38) hx hb hts hi_X8_isOpen_8 hown hK hP 0 rfl rfl 14 (by decide) (hts (.fieldLink RX8 38 "TheLiningsInItModel" "lacks" "[I") (List.mem_of_getElem? (i := 2) rfl)) (fun _ h9 => h9) rfl dX8_isOpen_11 ?_
    refine lv_iload_n hx hb dX8_isOpen_14 rfl (lv_at hl 1 rfl) ?_
    refine va_iald hx hb hK hP 1 0 rfl rfl (zf_in (by omega) (by omega)) dX8_isOpen_15 ?_
    refine lv_topi (fun x_3 ex_3 => ?_)
    have bx_3 : 0 ≤ x_3.toInt ∧ x_3.toInt ≤ 1 := by rw [ex_3]; exact hp_gla _
    refine lv_iconst (v := 1) hx hb dX8_isOpen_16 (by decide) ?_
    refine lv_icmp_ne (tgt := 48) hx hb dX8_isOpen_17 (by decide) (fun c_4 => ?_) (fun c_4 => ?_)
    · have fc_4 : x_3.toInt ≠ 1 := zf_ne c_4 rfl (by decide)
      refine lv_iconst (v := 0) hx hb dX8_isOpen_48 (by decide) ?_
      exact W.zret (v := 0) hx hb hr (by decide) (fun t ht hW => ⟨0, rfl, ⟨by decide, by decide, (show ((0 : Int32).toInt = 1 → zOp gla nte.toInt t_.toInt) ∧ ((0 : Int32).toInt = 0 → ¬ zOp gla nte.toInt t_.toInt) from by (have h8 : (gla (t_.toInt).toNat).toInt = x_3.toInt := (by rw [ex_3]; exact congrArg (fun z : Int => (gla z.toNat).toInt) (by omega)); exact ⟨fun h => absurd h (by decide), fun _ => fun z => by (obtain ⟨⟨z1, z2, z3⟩, ⟨z4, z5, z6⟩, z7, z8, z9⟩ := z; omega)⟩))⟩, ht⟩) (fun q hq => by cases hq) dX8_isOpen_49
    · have fc_4 : x_3.toInt = 1 := zf_eq c_4 rfl (by decide)
      refine lv_aload_n hx hb dX8_isOpen_20 rfl (lv_at hl 0 rfl) ?_
      refine va_get (D := D) (ci := 8) (v := .ref mla) (C := RX8) (T := TX8) (N := 38) hx hb hts hi_X8_isOpen_8 hown hK hP 0 rfl rfl 14 (by decide) (hts (.fieldLink RX8 38 "TheLiningsInItModel" "lacks" "[I") (List.mem_of_getElem? (i := 2) rfl)) (fun _ h9 => h9) rfl dX8_isOpen_21 ?_
      refine lv_iload_n hx hb dX8_isOpen_24 rfl (lv_at hl 1 rfl) ?_
      refine lv_iconst (v := 1) hx hb dX8_isOpen_25 (by decide) ?_
      refine lv_iadd hx hb dX8_isOpen_26 ?_
      refine lv_topi (fun x_5 ex_5 => ?_)
      have qx_5 : x_5.toInt = t_.toInt + 1 := by rw [ex_5]; exact zf_add rfl (by decide) (by omega) (by omega)
      refine va_iald hx hb hK hP 1 0 rfl rfl (zf_in (by omega) (by omega)) dX8_isOpen_27 ?_
      refine lv_topi (fun x_6 ex_6 => ?_)
      have bx_6 : 0 ≤ x_6.toInt ∧ x_6.toInt ≤ 1 := by rw [ex_6]; exact hp_gla _
      refine lv_iconst (v := 1) hx hb dX8_isOpen_28 (by decide) ?_
      refine lv_icmp_ne (tgt := 48) hx hb dX8_isOpen_29 (by decide) (fun c_7 => ?_) (fun c_7 => ?_)
      · have fc_7 : x_6.toInt ≠ 1 := zf_ne c_7 rfl (by decide)
        refine lv_iconst (v := 0) hx hb dX8_isOpen_48 (by decide) ?_
        exact W.zret (v := 0) hx hb hr (by decide) (fun t ht hW => ⟨0, rfl, ⟨by decide, by decide, (show ((0 : Int32).toInt = 1 → zOp gla nte.toInt t_.toInt) ∧ ((0 : Int32).toInt = 0 → ¬ zOp gla nte.toInt t_.toInt) from by (have h8 : (gla (t_.toInt).toNat).toInt = x_3.toInt := (by rw [ex_3]; exact congrArg (fun z : Int => (gla z.toNat).toInt) (by omega)); have h9 : (gla (t_.toInt + 1).toNat).toInt = x_6.toInt := (by rw [ex_6]; exact congrArg (fun z : Int => (gla z.toNat).toInt) (by omega)); exact ⟨fun h => absurd h (by decide), fun _ => fun z => by (obtain ⟨⟨z1, z2, z3⟩, ⟨z4, z5, z6⟩, z7, z8, z9⟩ := z; omega)⟩))⟩, ht⟩) (fun q hq => by cases hq) dX8_isOpen_49
      · have fc_7 : x_6.toInt = 1 := zf_eq c_7 rfl (by decide)
        refine lv_aload_n hx hb dX8_isOpen_32 rfl (lv_at hl 0 rfl) ?_
        refine va_get (D := D) (ci := 8) (v := .ref mla) (C := RX8) (T := TX8) (N := 38) hx hb hts hi_X8_isOpen_8 hown hK hP 0 rfl rfl 14 (by decide) (hts (.fieldLink RX8 38 "TheLiningsInItModel" "lacks" "[I") (List.mem_of_getElem? (i := 2) rfl)) (fun _ h9 => h9) rfl dX8_isOpen_33 ?_
        refine lv_iload_n hx hb dX8_isOpen_36 rfl (lv_at hl 1 rfl) ?_
        refine lv_iconst (v := 2) hx hb dX8_isOpen_37 (by decide) ?_
        refine lv_iadd hx hb dX8_isOpen_38 ?_
        refine lv_topi (fun y_8 ey_8 => ?_)
        obtain rfl : x_1 = y_8 := ex_1.trans ey_8.symm
        refine va_iald hx hb hK hP 1 0 rfl rfl (zf_in (by omega) (by omega)) dX8_isOpen_39 ?_
        refine lv_topi (fun x_9 ex_9 => ?_)
        have bx_9 : 0 ≤ x_9.toInt ∧ x_9.toInt ≤ 1 := by rw [ex_9]; exact hp_gla _
        refine lv_iconst (v := 1) hx hb dX8_isOpen_40 (by decide) ?_
        refine lv_icmp_ne (tgt := 48) hx hb dX8_isOpen_41 (by decide) (fun c_10 => ?_) (fun c_10 => ?_)
        · have fc_10 : x_9.toInt ≠ 1 := zf_ne c_10 rfl (by decide)
          refine lv_iconst (v := 0) hx hb dX8_isOpen_48 (by decide) ?_
          exact W.zret (v := 0) hx hb hr (by decide) (fun t ht hW => ⟨0, rfl, ⟨by decide, by decide, (show ((0 : Int32).toInt = 1 → zOp gla nte.toInt t_.toInt) ∧ ((0 : Int32).toInt = 0 → ¬ zOp gla nte.toInt t_.toInt) from by (have h8 : (gla (t_.toInt).toNat).toInt = x_3.toInt := (by rw [ex_3]; exact congrArg (fun z : Int => (gla z.toNat).toInt) (by omega)); have h9 : (gla (t_.toInt + 1).toNat).toInt = x_6.toInt := (by rw [ex_6]; exact congrArg (fun z : Int => (gla z.toNat).toInt) (by omega)); have h10 : (gla (t_.toInt + 2).toNat).toInt = x_9.toInt := (by rw [ex_9]; exact congrArg (fun z : Int => (gla z.toNat).toInt) (by omega)); exact ⟨fun h => absurd h (by decide), fun _ => fun z => by (obtain ⟨⟨z1, z2, z3⟩, ⟨z4, z5, z6⟩, z7, z8, z9⟩ := z; omega)⟩))⟩, ht⟩) (fun q hq => by cases hq) dX8_isOpen_49
        · have fc_10 : x_9.toInt = 1 := zf_eq c_10 rfl (by decide)
          refine lv_iconst (v := 1) hx hb dX8_isOpen_44 (by decide) ?_
          refine lv_goto (tgt := 49) hx hb dX8_isOpen_45 (by decide) ?_
          exact W.zret (v := 1) hx hb hr (by decide) (fun t ht hW => ⟨1, rfl, ⟨by decide, by decide, (show ((1 : Int32).toInt = 1 → zOp gla nte.toInt t_.toInt) ∧ ((1 : Int32).toInt = 0 → ¬ zOp gla nte.toInt t_.toInt) from by (have h8 : (gla (t_.toInt).toNat).toInt = x_3.toInt := (by rw [ex_3]; exact congrArg (fun z : Int => (gla z.toNat).toInt) (by omega)); have h9 : (gla (t_.toInt + 1).toNat).toInt = x_6.toInt := (by rw [ex_6]; exact congrArg (fun z : Int => (gla z.toNat).toInt) (by omega)); have h10 : (gla (t_.toInt + 2).toNat).toInt = x_9.toInt := (by rw [ex_9]; exact congrArg (fun z : Int => (gla z.toNat).toInt) (by omega)); exact ⟨fun _ => ⟨⟨by omega, by omega, by omega⟩, ⟨by omega, by omega, by omega⟩, by omega, by omega, by omega⟩, fun h => absurd h (by decide)⟩))⟩, ht⟩) (fun q hq => by cases hq) dX8_isOpen_49
set_option maxHeartbeats 4000000 in
set_option maxRecDepth 100000 in
theorem c_F_M_doesHold (l : Launch) (D : va_G) (cI cJ cZ cP cS : ClassId) (po : zPool) (m0 mrf mki mpa mta mla msl mco mhe mso msi msh mce mca mwo mnu mte mwa mke mma mth mtr : Nat) (npu nte nat_ nde nto nse nhu nga nsd nfa nba npl nen nnu nwr nra nik : Int32) (gla : Nat → Int32) (hy0 : 0 ≤ npu.toInt) (hy1 : npu.toInt ≤ 8) (hy2 : 4 ≤ nte.toInt) (hy3 : nte.toInt ≤ 40) (hy4 : 0 ≤ nat_.toInt) (hy5 : nat_.toInt ≤ 40) (hy6 : 0 ≤ nde.toInt) (hy7 : nde.toInt ≤ 24) (hy8 : 0 ≤ nhu.toInt) (hy9 : nhu.toInt ≤ 9) (hy10 : 0 ≤ nra.toInt) (hy11 : nra.toInt ≤ 2000) (hy12 : 0 ≤ nik.toInt) (hy13 : nik.toInt ≤ 1) (hp_gla : zRg gla (0) 1) : Met l yX8_doesHold wsX8_doesHold ({ frames := 1, cells := 0, slots := 0, locals := 21 }) (va_Pc [.ref m0] (zR D (zKT cI cJ cZ cP cS) po [(zMO m0 npu nte nat_ nde nto nse nhu nga nsd nfa mrf mki mpa mta mla msl mco mhe mso msi msh mce mca mwo mnu mte nba npl nen nnu nwr mwa mke mma mth mtr nra nik), (mla, .inl (cI, 40, .inl gla))])) (vp_Si (fun r => 0 ≤ r.toInt ∧ r.toInt ≤ 1 ∧ ((r.toInt = 1 → zHd gla nte.toInt) ∧ (r.toInt = 0 → ¬ zHd gla nte.toInt)))) 0 0 (fun _ => False) := by
  refine Met.ofW (cc := cX8_doesHold) (maxL := 2) (ret := (some .boolean)) (by decide) rfl ?_
  intro p e s m args below meth c s₁ B hml hv
  obtain ⟨rfl, hP, hK, hN, hZ⟩ := hv
  have hx := B.exec
  have hb := B.bytes
  have hr := B.returns
  have hts := atoms_spec (ws := wsX8_doesHold) B.pre
  have hown : s.vm.findClass RX8 = some m.cls := findClass_of_methodNamed B.named
  have hlocks := B.notSynchronized
  have hl := lv_entry ([.ref m0]) (n := 2) (Nat.le_of_ble_eq_true rfl)
  rw [lg_entry_eq]
  generalize (lg_sl ([.ref m0]) ++ List.replicate (2 - (lg_sl ([.ref m0])).length) Slot.unset).toArray = ls at hl ⊢
  replace hl : lv_has ls 2 [(0, .ref m0)] := hl
  refine lv_iconst (v := 0) hx hb dX8_doesHold_0 (by decide) ?_
  refine lv_istore_n (lv' := [(1, .int 0), (0, .ref m0)]) hx hb dX8_doesHold_1 rfl hl (by decide) rfl (fun ls hl => ?_)
  obtain ⟨i_2, hi_2⟩ : ∃ i : Int32, i = 0 := ⟨_, rfl⟩
  replace hl : lv_has ls 2 [(1, .int i_2), (0, .ref m0)] := by rw [hi_2]; exact lv_sub hl [0, 1] rfl
  have h1i_2 : i_2.toInt = 0 := by rw [hi_2]; decide
  obtain ⟨nfu, hni_2⟩ : ∃ nq9 : Nat, nte.toInt ≤ i_2.toInt + (nq9 : Int) := ⟨((nte.toInt : Int) - 0).toNat, by omega⟩
  have hloi_2 : 0 ≤ i_2.toInt := by omega
  have hvi_2_0 : (∀ u : Int, 0 ≤ u → u < i_2.toInt → ¬ zOp gla nte.toInt u) := by
    (try rw [hi_2]); (intro u h1 h2; exfalso; have k0 : (0 : Int32).toInt = 0 := (by decide); omega)
  clear h1i_2 hi_2
  revert hni_2
  revert hloi_2
  revert hvi_2_0
  revert hl
  revert ls
  revert i_2
  induction nfu with
  | zero =>
    intro i_2 ls hl hvi_2_0 hloi_2 hni_2
    have hzi_2 : nte.toInt ≤ i_2.toInt := by omega
    refine lv_iload_n hx hb dX8_doesHold_2 rfl (lv_at hl 0 rfl) ?_
    refine lv_aload_n hx hb dX8_doesHold_3 rfl (lv_at hl 1 rfl) ?_
    refine va_get (D := D) (ci := 8) (v := .int nte) (C := RX8) (T := TX8) (N := 38) hx hb hts hi_X8_doesHold_8 hown hK hP 0 rfl rfl 1 (by decide) (hts (.fieldLink RX8 7 "TheLiningsInItModel" "teeth" "I") (List.mem_of_getElem? (i := 1) rfl)) (fun _ h9 => h9) rfl dX8_doesHold_4 ?_
    refine lv_icmp_ge (tgt := 26) hx hb dX8_doesHold_7 (by decide) (fun c_1 => ?_) (fun c_1 => ?_)
    · have fc_1 : nte.toInt ≤ i_2.toInt := zf_le c_1 rfl rfl
      refine lv_iconst (v := 1) hx hb dX8_doesHold_26 (by decide) ?_
      exact W.zret (v := 1) hx hb hr (by decide) (fun t ht hW => ⟨1, rfl, ⟨by decide, by decide, (show ((1 : Int32).toInt = 1 → zHd gla nte.toInt) ∧ ((1 : Int32).toInt = 0 → ¬ zHd gla nte.toInt) from by (exact ⟨fun _ => fun u a b => hvi_2_0 u a (by omega), fun h => absurd h (by decide)⟩))⟩, ht⟩) (fun q hq => by cases hq) dX8_doesHold_27
    · exfalso; have fc_1 : i_2.toInt < nte.toInt := zf_nle c_1 rfl rfl; omega
  | succ nfu ih =>
    intro i_2 ls hl hvi_2_0 hloi_2 hni_2
    refine lv_iload_n hx hb dX8_doesHold_2 rfl (lv_at hl 0 rfl) ?_
    refine lv_aload_n hx hb dX8_doesHold_3 rfl (lv_at hl 1 rfl) ?_
    refine va_get (D := D) (ci := 8) (v := .int nte) (C := RX8) (T := TX8) (N := 38) hx hb hts hi_X8_doesHold_8 hown hK hP 0 rfl rfl 1 (by decide) (hts (.fieldLink RX8 7 "TheLiningsInItModel" "teeth" "I") (List.mem_of_getElem? (i := 1) rfl)) (fun _ h9 => h9) rfl dX8_doesHold_4 ?_
    refine lv_icmp_ge (tgt := 26) hx hb dX8_doesHold_7 (by decide) (fun c_2 => ?_) (fun c_2 => ?_)
    · have fc_2 : nte.toInt ≤ i_2.toInt := zf_le c_2 rfl rfl
      refine lv_iconst (v := 1) hx hb dX8_doesHold_26 (by decide) ?_
      exact W.zret (v := 1) hx hb hr (by decide) (fun t ht hW => ⟨1, rfl, ⟨by decide, by decide, (show ((1 : Int32).toInt = 1 → zHd gla nte.toInt) ∧ ((1 : Int32).toInt = 0 → ¬ zHd gla nte.toInt) from by (exact ⟨fun _ => fun u a b => hvi_2_0 u a (by omega), fun h => absurd h (by decide)⟩))⟩, ht⟩) (fun q hq => by cases hq) dX8_doesHold_27
    · have fc_2 : i_2.toInt < nte.toInt := zf_nle c_2 rfl rfl
      refine lv_aload_n hx hb dX8_doesHold_10 rfl (lv_at hl 1 rfl) ?_
      refine lv_iload_n hx hb dX8_doesHold_11 rfl (lv_at hl 0 rfl) ?_
      refine zc_V (As := [.int i_2]) (rest := []) ⟨hx, hb, hml, hown, hts⟩ (c_F_M_isOpen l D cI cJ cZ cP cS po m0 mrf mki mpa mta mla msl mco mhe mso msi msh mce mca mwo mnu mte mwa mke mma mth mtr (npu) (nte) (nat_) (nde) (nto) (nse) (nhu) (nga) (nsd) (nfa) (nba) (npl) (nen) (nnu) (nwr) (nra) (nik) gla (i_2) hy0 hy1 hy2 hy3 hy4 hy5 hy6 hy7 hy8 hy9 hy10 hy11 hy12 hy13 (by omega) (by omega) hp_gla) (cwV 1 hts gX8_doesHold_X8_isOpen rfl rfl rfl ⟨rfl, dh_X8_isOpen⟩ ⟨Nat.le_of_ble_eq_true rfl, Nat.le_of_ble_eq_true rfl⟩) hK hN hZ hP (hP.sub [0, 1] rfl) (va_recv (q := (RX8, TX8, 38)) hK hP (ci := 8) (q0 := 0) rfl rfl) rfl hl.1 rfl (Nat.le_of_ble_eq_true rfl) dX8_doesHold_12 ⟨Nat.le_of_ble_eq_true rfl, Nat.le_of_ble_eq_true rfl⟩ (fun r_3 hr_3 => ?_)
      obtain ⟨g_4, g_5, hsr_3_0⟩ := hr_3
      refine lv_if_eq (tgt := 20) hx hb dX8_doesHold_15 (by decide) (fun c_6 => ?_) (fun c_6 => ?_)
      · have fc_6 : r_3.toInt = 0 := zf_eq c_6 rfl (by decide)
        obtain ⟨x_7, ex_7⟩ : ∃ y : Int32, y = i_2 + 1 := ⟨_, rfl⟩
        have qx_7 : x_7.toInt = i_2.toInt + 1 := dw_inc ex_7 fc_2
        refine lv_iinc (v := x_7) (lv' := [(1, .int x_7), (0, .ref m0)]) hx hb dX8_doesHold_20 hl (k := 0) rfl ex_7.symm (by decide) rfl (fun ls hl => ?_)
        refine lv_goto (tgt := 2) hx hb dX8_doesHold_23 (by decide) ?_
        exact ih x_7 _ (lv_sub hl [0, 1] rfl) (show (∀ u : Int, 0 ≤ u → u < x_7.toInt → ¬ zOp gla nte.toInt u) from by exact zAll_S (P := fun u => ¬ zOp gla nte.toInt u) hvi_2_0 (hsr_3_0.2 (by omega)) (by omega)) (dw_lo hloi_2 qx_7) (dw_hn hni_2 qx_7)
      · have fc_6 : r_3.toInt ≠ 0 := zf_ne c_6 rfl (by decide)
        refine lv_iconst (v := 0) hx hb dX8_doesHold_18 (by decide) ?_
        exact W.zret (v := 0) hx hb hr (by decide) (fun t ht hW => ⟨0, rfl, ⟨by decide, by decide, (show ((0 : Int32).toInt = 1 → zHd gla nte.toInt) ∧ ((0 : Int32).toInt = 0 → ¬ zHd gla nte.toInt) from by (exact ⟨fun h => absurd h (by decide), fun _ => fun hd => hd i_2.toInt (by omega) (by omega) (hsr_3_0.1 (by omega))⟩))⟩, ht⟩) (fun q hq => by cases hq) dX8_doesHold_19
set_option maxHeartbeats 4000000 in
set_option maxRecDepth 100000 in
theorem c_F_M_frail (l : Launch) (D : va_G) (cI cJ cZ cP cS : ClassId) (po : zPool) (m0 mrf mki mpa mta mla msl mco mhe mso msi msh mce mca mwo mnu mte mwa mke mma mth mtr : Nat) (npu nte nat_ nde nto nse nhu nga nsd nfa nba npl nen nnu nwr nra nik : Int32) (gla : Nat → Int32) (hy0 : 0 ≤ npu.toInt) (hy1 : npu.toInt ≤ 8) (hy2 : 4 ≤ nte.toInt) (hy3 : nte.toInt ≤ 40) (hy4 : 0 ≤ nat_.toInt) (hy5 : nat_.toInt ≤ 40) (hy6 : 0 ≤ nde.toInt) (hy7 : nde.toInt ≤ 24) (hy8 : 0 ≤ nhu.toInt) (hy9 : nhu.toInt ≤ 9) (hy10 : 0 ≤ nra.toInt) (hy11 : nra.toInt ≤ 2000) (hy12 : 0 ≤ nik.toInt) (hy13 : nik.toInt ≤ 1) (hp_gla : zRg gla (0) 1) (hpz : Nat) : Met l yX8_frail wsX8_frail ({ frames := 2, cells := 0, slots := 0, locals := 42 }) (va_Pc [.ref m0] (zW D (zKT cI cJ cZ cP cS) po [(zMO m0 npu nte nat_ nde nto nse nhu nga nsd nfa mrf mki mpa mta mla msl mco mhe mso msi msh mce mca mwo mnu mte nba npl nen nnu nwr mwa mke mma mth mtr nra nik), (mla, .inl (cI, 40, .inl gla))] hpz)) (va_Qi (fun (r : Int32) (gla2 : (Nat → Int32)) => zRg gla2 (0) 1 ∧ (gla2 = gla) ∧ ((zHd gla nte.toInt → r.toInt = zCf gla nte.toInt nte.toInt.toNat) ∧ (¬ zHd gla nte.toInt → r.toInt = 0)) ∧ (True)) (zB D [(zMO m0 npu nte nat_ nde nto nse nhu nga nsd nfa mrf mki mpa mta mla msl mco mhe mso msi msh mce mca mwo mnu mte nba npl nen nnu nwr mwa mke mma mth mtr nra nik), (mla, .inl (cI, 40, .inl gla))] hpz (fun (gla2 : Nat → Int32) => [(zMO m0 npu nte nat_ nde nto nse nhu nga nsd nfa mrf mki mpa mta mla msl mco mhe mso msi msh mce mca mwo mnu mte nba npl nen nnu nwr mwa mke mma mth mtr nra nik), (mla, .inl (cI, 40, .inl gla2))])) (va_A [(zMO m0 npu nte nat_ nde nto nse nhu nga nsd nfa mrf mki mpa mta mla msl mco mhe mso msi msh mce mca mwo mnu mte nba npl nen nnu nwr mwa mke mma mth mtr nra nik), (mla, .inl (cI, 40, .inl gla))] hpz)) 0 0 (va_A [(zMO m0 npu nte nat_ nde nto nse nhu nga nsd nfa mrf mki mpa mta mla msl mco mhe mso msi msh mce mca mwo mnu mte nba npl nen nnu nwr mwa mke mma mth mtr nra nik), (mla, .inl (cI, 40, .inl gla))] hpz) := by
  refine Met.ofW (cc := cX8_frail) (maxL := 3) (ret := (some .int)) (by decide) rfl ?_
  intro p e s m args below meth c s₁ B hml hv
  obtain ⟨rfl, hsz, hP, hK, hD0, hN, hZ⟩ := hv
  have hx := B.exec
  have hb := B.bytes
  have hr := B.returns
  have hts := atoms_spec (ws := wsX8_frail) B.pre
  have hown : s.vm.findClass RX8 = some m.cls := findClass_of_methodNamed B.named
  have hlocks := B.notSynchronized
  subst hsz
  have hD := hD0.self (sz := s.heap.size)
  have hA := zA_of hD
  have hl := lv_entry ([.ref m0]) (n := 3) (Nat.le_of_ble_eq_true rfl)
  rw [lg_entry_eq]
  generalize (lg_sl ([.ref m0]) ++ List.replicate (3 - (lg_sl ([.ref m0])).length) Slot.unset).toArray = ls at hl ⊢
  replace hl : lv_has ls 3 [(0, .ref m0)] := hl
  refine zw_begin hP hD (fun H locs hP1 hS => ?_)
  clear hP
  have hP := hP1
  clear hP1
  refine lv_iconst (v := 0) hx hb dX8_frail_0 (by decide) ?_
  refine lv_istore_n (lv' := [(1, .int 0), (0, .ref m0)]) hx hb dX8_frail_1 rfl hl (by decide) rfl (fun ls hl => ?_)
  refine lv_iconst (v := 0) hx hb dX8_frail_2 (by decide) ?_
  refine lv_istore_n (lv' := [(2, .int 0), (1, .int 0), (0, .ref m0)]) hx hb dX8_frail_3 rfl hl (by decide) rfl (fun ls hl => ?_)
  obtain ⟨i_4, hi_4⟩ : ∃ i : Int32, i = 0 := ⟨_, rfl⟩
  replace hl : lv_has ls 3 [(2, .int i_4), (1, .int 0), (0, .ref m0)] := by rw [hi_4]; exact lv_sub hl [0, 1, 2] rfl
  have h1i_4 : i_4.toInt = 0 := by rw [hi_4]; decide
  obtain ⟨nfu, hni_4⟩ : ∃ nq9 : Nat, nte.toInt ≤ i_4.toInt + (nq9 : Int) := ⟨((nte.toInt : Int) - 0).toNat, by omega⟩
  have hloi_4 : 0 ≤ i_4.toInt := by omega
  obtain ⟨g_1, hg_1⟩ : ∃ g : Nat → Int32, g = gla := ⟨_, rfl⟩
  have hpg_1 : zRg g_1 (0) 1 := by rw [hg_1]; exact hp_gla
  replace hP : va_P D vwCl [(zMO m0 npu nte nat_ nde nto nse nhu nga nsd nfa mrf mki mpa mta mla msl mco mhe mso msi msh mce mca mwo mnu mte nba npl nen nnu nwr mwa mke mma mth mtr nra nik), (mla, .inl (cI, 40, .inl g_1))] H := by rw [hg_1]; exact hP
  replace hD : va_D (va_A [(zMO m0 npu nte nat_ nde nto nse nhu nga nsd nfa mrf mki mpa mta mla msl mco mhe mso msi msh mce mca mwo mnu mte nba npl nen nnu nwr mwa mke mma mth mtr nra nik), (mla, .inl (cI, 40, .inl gla))] s.heap.size) [(zMO m0 npu nte nat_ nde nto nse nhu nga nsd nfa mrf mki mpa mta mla msl mco mhe mso msi msh mce mca mwo mnu mte nba npl nen nnu nwr mwa mke mma mth mtr nra nik), (mla, .inl (cI, 40, .inl g_1))] := by rw [hg_1]; exact hD
  obtain ⟨v_2, hv_2⟩ : ∃ g : Int32, g = 0 := ⟨_, rfl⟩
  replace hl : lv_has ls 3 [(2, .int i_4), (1, .int v_2), (0, .ref m0)] := by rw [hv_2]; exact hl
  have hbv_2 : 0 ≤ v_2.toInt ∧ v_2.toInt ≤ 40 := by rw [hv_2]; exact ⟨by decide, by decide⟩
  have hvi_4_0 : (g_1 = gla) := by
    (try rw [hi_4]); (try rw [hg_1]); (try rw [hv_2]); first | done | rfl
  have hvi_4_1 : ((zHd gla nte.toInt → (v_2 : Int32).toInt = zCf gla nte.toInt i_4.toInt.toNat) ∧ (¬ zHd gla nte.toInt → (v_2 : Int32).toInt = 0)) := by
    (try rw [hi_4]); (try rw [hg_1]); (try rw [hv_2]); (exact ⟨fun _ => (by rw [(show ((0 : Int32).toInt.toNat) = 0 from by decide)]; show (0 : Int32).toInt = 0; decide), fun _ => by decide⟩)
  have hvi_4_2 : (v_2 : Int32).toInt ≤ i_4.toInt := by
    (try rw [hi_4]); (try rw [hg_1]); (try rw [hv_2]); first | omega | decide
  have hvi_4_3 : i_4.toInt ≤ nte.toInt := by
    (try rw [hi_4]); (try rw [hg_1]); (try rw [hv_2]); (have k0 : (0 : Int32).toInt = 0 := (by decide); omega)
  clear h1i_4 hi_4 hg_1 hv_2
  skip
  revert hni_4
  revert hloi_4
  revert hvi_4_3
  revert hvi_4_2
  revert hvi_4_1
  revert hvi_4_0
  revert hbv_2
  revert hpg_1
  revert hl
  revert hS
  revert hD
  revert hP
  revert ls
  revert locs
  revert H
  revert g_1
  revert v_2
  revert i_4
  induction nfu with
  | zero =>
    intro i_4 v_2 g_1 H locs ls hP hD hS hl hpg_1 hbv_2 hvi_4_0 hvi_4_1 hvi_4_2 hvi_4_3 hloi_4 hni_4
    have hzi_4 : nte.toInt ≤ i_4.toInt := by omega
    refine lv_iload_n hx hb dX8_frail_4 rfl (lv_at hl 0 rfl) ?_
    refine lv_aload_n hx hb dX8_frail_5 rfl (lv_at hl 2 rfl) ?_
    refine va_get (D := D) (ci := 8) (v := .int nte) (C := RX8) (T := TX8) (N := 38) hx hb hts hi_X8_frail_8 hown hK hP 0 rfl rfl 1 (by decide) (hts (.fieldLink RX8 7 "TheLiningsInItModel" "teeth" "I") (List.mem_of_getElem? (i := 1) rfl)) (fun _ h9 => h9) rfl dX8_frail_6 ?_
    refine lv_icmp_ge (tgt := 62) hx hb dX8_frail_9 (by decide) (fun c_3 => ?_) (fun c_3 => ?_)
    · have fc_3 : nte.toInt ≤ i_4.toInt := zf_le c_3 rfl rfl
      refine lv_iload_n hx hb dX8_frail_62 rfl (lv_at hl 1 rfl) ?_
      exact W.iret (v := v_2) hx hb hr (fun t ht hW => ⟨⟨v_2, g_1, rfl, ⟨hpg_1, (show g_1 = gla from by exact hvi_4_0), (show (zHd gla nte.toInt → (v_2 : Int32).toInt = zCf gla nte.toInt nte.toInt.toNat) ∧ (¬ zHd gla nte.toInt → (v_2 : Int32).toInt = 0) from by (have h9 : i_4.toInt.toNat = nte.toInt.toNat := (by omega); have z := hvi_4_1; rw [h9] at z; exact z)), trivial⟩, zRet ht hP hD [0, 1] (by decide) rfl⟩, hS.F ht⟩) hS.2.2 dX8_frail_63
    · exfalso; have fc_3 : i_4.toInt < nte.toInt := zf_nle c_3 rfl rfl; omega
  | succ nfu ih =>
    intro i_4 v_2 g_1 H locs ls hP hD hS hl hpg_1 hbv_2 hvi_4_0 hvi_4_1 hvi_4_2 hvi_4_3 hloi_4 hni_4
    refine lv_iload_n hx hb dX8_frail_4 rfl (lv_at hl 0 rfl) ?_
    refine lv_aload_n hx hb dX8_frail_5 rfl (lv_at hl 2 rfl) ?_
    refine va_get (D := D) (ci := 8) (v := .int nte) (C := RX8) (T := TX8) (N := 38) hx hb hts hi_X8_frail_8 hown hK hP 0 rfl rfl 1 (by decide) (hts (.fieldLink RX8 7 "TheLiningsInItModel" "teeth" "I") (List.mem_of_getElem? (i := 1) rfl)) (fun _ h9 => h9) rfl dX8_frail_6 ?_
    refine lv_icmp_ge (tgt := 62) hx hb dX8_frail_9 (by decide) (fun c_4 => ?_) (fun c_4 => ?_)
    · have fc_4 : nte.toInt ≤ i_4.toInt := zf_le c_4 rfl rfl
      refine lv_iload_n hx hb dX8_frail_62 rfl (lv_at hl 1 rfl) ?_
      exact W.iret (v := v_2) hx hb hr (fun t ht hW => ⟨⟨v_2, g_1, rfl, ⟨hpg_1, (show g_1 = gla from by exact hvi_4_0), (show (zHd gla nte.toInt → (v_2 : Int32).toInt = zCf gla nte.toInt nte.toInt.toNat) ∧ (¬ zHd gla nte.toInt → (v_2 : Int32).toInt = 0) from by (have h9 : i_4.toInt.toNat = nte.toInt.toNat := (by omega); have z := hvi_4_1; rw [h9] at z; exact z)), trivial⟩, zRet ht hP hD [0, 1] (by decide) rfl⟩, hS.F ht⟩) hS.2.2 dX8_frail_63
    · have fc_4 : i_4.toInt < nte.toInt := zf_nle c_4 rfl rfl
      refine lv_aload_n hx hb dX8_frail_12 rfl (lv_at hl 2 rfl) ?_
      refine zc_V (As := []) (rest := []) ⟨hx, hb, hml, hown, hts⟩ (c_F_M_doesHold l D cI cJ cZ cP cS po m0 mrf mki mpa mta mla msl mco mhe mso msi msh mce mca mwo mnu mte mwa mke mma mth mtr (npu) (nte) (nat_) (nde) (nto) (nse) (nhu) (nga) (nsd) (nfa) (nba) (npl) (nen) (nnu) (nwr) (nra) (nik) g_1 hy0 hy1 hy2 hy3 hy4 hy5 hy6 hy7 hy8 hy9 hy10 hy11 hy12 hy13 hpg_1) (cwV 0 hts gX8_frail_X8_doesHold rfl rfl rfl ⟨rfl, dh_X8_doesHold⟩ ⟨Nat.le_of_ble_eq_true rfl, Nat.le_of_ble_eq_true rfl⟩) hK hN (hZ.kept hS) hP (hP.sub [0, 1] rfl) (va_recv (q := (RX8, TX8, 38)) hK hP (ci := 8) (q0 := 0) rfl rfl) rfl hl.1 rfl (Nat.le_of_ble_eq_true rfl) dX8_frail_13 ⟨Nat.le_of_ble_eq_true rfl, Nat.le_of_ble_eq_true rfl⟩ (fun r_5 hr_5 => ?_)
      obtain ⟨g_6, g_7, hsr_5_0⟩ := hr_5
      have q1 := hsr_5_0
      rw [hvi_4_0] at q1
      refine lv_if_eq (tgt := 62) hx hb dX8_frail_16 (by decide) (fun c_8 => ?_) (fun c_8 => ?_)
      · have fc_8 : r_5.toInt = 0 := zf_eq c_8 rfl (by decide)
        refine lv_iload_n hx hb dX8_frail_62 rfl (lv_at hl 1 rfl) ?_
        exact W.iret (v := v_2) hx hb hr (fun t ht hW => ⟨⟨v_2, g_1, rfl, ⟨hpg_1, (show g_1 = gla from by exact hvi_4_0), (show (zHd gla nte.toInt → (v_2 : Int32).toInt = zCf gla nte.toInt nte.toInt.toNat) ∧ (¬ zHd gla nte.toInt → (v_2 : Int32).toInt = 0) from by (exact ⟨fun hd => absurd hd (q1.2 (by omega)), fun hd => hvi_4_1.2 hd⟩)), trivial⟩, zRet ht hP hD [0, 1] (by decide) rfl⟩, hS.F ht⟩) hS.2.2 dX8_frail_63
      · have fc_8 : r_5.toInt ≠ 0 := zf_ne c_8 rfl (by decide)
        refine lv_aload_n hx hb dX8_frail_19 rfl (lv_at hl 2 rfl) ?_
        refine va_get (D := D) (ci := 8) (v := .ref mla) (C := RX8) (T := TX8) (N := 38) hx hb hts hi_X8_frail_8 hown hK hP 0 rfl rfl 14 (by decide) (hts (.fieldLink RX8 38 "TheLiningsInItModel" "lacks" "[I") (List.mem_of_getElem? (i := 2) rfl)) (fun _ h9 => h9) rfl dX8_frail_20 ?_
        refine lv_iload_n hx hb dX8_frail_23 rfl (lv_at hl 0 rfl) ?_
        refine va_iald hx hb hK hP 1 0 rfl rfl (zf_in (by omega) (by omega)) dX8_frail_24 ?_
        refine lv_topi (fun x_9 ex_9 => ?_)
        have bx_9 : 0 ≤ x_9.toInt ∧ x_9.toInt ≤ 1 := by rw [ex_9]; exact hpg_1 _
        refine lv_iconst (v := 1) hx hb dX8_frail_25 (by decide) ?_
        have h8 : (gla i_4.toInt.toNat).toInt = x_9.toInt := by (rw [← hvi_4_0, ex_9]; rfl)
        refine lv_icmp_ne (tgt := 32) hx hb dX8_frail_26 (by decide) (fun c_10 => ?_) (fun c_10 => ?_)
        · have fc_10 : x_9.toInt ≠ 1 := zf_ne c_10 rfl (by decide)
          refine lv_aload_n hx hb dX8_frail_32 rfl (lv_at hl 2 rfl) ?_
          refine va_get (D := D) (ci := 8) (v := .ref mla) (C := RX8) (T := TX8) (N := 38) hx hb hts hi_X8_frail_8 hown hK hP 0 rfl rfl 14 (by decide) (hts (.fieldLink RX8 38 "TheLiningsInItModel" "lacks" "[I") (List.mem_of_getElem? (i := 2) rfl)) (fun _ h9 => h9) rfl dX8_frail_33 ?_
          refine lv_iload_n hx hb dX8_frail_36 rfl (lv_at hl 0 rfl) ?_
          refine lv_iconst (v := 1) hx hb dX8_frail_37 (by decide) ?_
          refine va_iast hx hb hK hP hD hS 1 0 rfl rfl (zf_in (by omega) (by omega)) dX8_frail_38 (fun H locs hP hD hS => ?_)
          have hpg_11 : zRg (upd g_1 i_4.toNatClampNeg 1) (0) 1 := zRg_upd hpg_1 (by decide) (by decide)
          obtain ⟨g_11, hg_11⟩ : ∃ g : Nat → Int32, g = upd g_1 i_4.toNatClampNeg 1 := ⟨_, rfl⟩
          rw [← hg_11] at hP hD hpg_11
          have h9R := zRe (ws' := [(zMO m0 npu nte nat_ nde nto nse nhu nga nsd nfa mrf mki mpa mta mla msl mco mhe mso msi msh mce mca mwo mnu mte nba npl nen nnu nwr mwa mke mma mth mtr nra nik), (mla, .inl (cI, 40, .inl g_11))]) hP hD rfl
          clear hP hD
          obtain ⟨hP, hD⟩ := h9R
          refine lv_aload_n hx hb dX8_frail_39 rfl (lv_at hl 2 rfl) ?_
          refine zc_V (As := []) (rest := []) ⟨hx, hb, hml, hown, hts⟩ (c_F_M_doesHold l D cI cJ cZ cP cS po m0 mrf mki mpa mta mla msl mco mhe mso msi msh mce mca mwo mnu mte mwa mke mma mth mtr (npu) (nte) (nat_) (nde) (nto) (nse) (nhu) (nga) (nsd) (nfa) (nba) (npl) (nen) (nnu) (nwr) (nra) (nik) g_11 hy0 hy1 hy2 hy3 hy4 hy5 hy6 hy7 hy8 hy9 hy10 hy11 hy12 hy13 hpg_11) (cwV 0 hts gX8_frail_X8_doesHold rfl rfl rfl ⟨rfl, dh_X8_doesHold⟩ ⟨Nat.le_of_ble_eq_true rfl, Nat.le_of_ble_eq_true rfl⟩) hK hN (hZ.kept hS) hP (hP.sub [0, 1] rfl) (va_recv (q := (RX8, TX8, 38)) hK hP (ci := 8) (q0 := 0) rfl rfl) rfl hl.1 rfl (Nat.le_of_ble_eq_true rfl) dX8_frail_40 ⟨Nat.le_of_ble_eq_true rfl, Nat.le_of_ble_eq_true rfl⟩ (fun r_12 hr_12 => ?_)
          obtain ⟨g_13, g_14, hsr_12_0⟩ := hr_12
          have q2 := hsr_12_0
          rw [hg_11, hvi_4_0] at q2
          have q3 := fun _ : Unit => zFr_iff (l := gla) (n := nte.toInt) (t := i_4.toInt) (q1.1 (by omega)) (by omega) (by omega) (by omega)
          refine lv_if_ne (tgt := 49) hx hb dX8_frail_43 (by decide) (fun c_15 => ?_) (fun c_15 => ?_)
          · have fc_15 : r_12.toInt ≠ 0 := zf_ne c_15 rfl (by decide)
            refine lv_aload_n hx hb dX8_frail_49 rfl (lv_at hl 2 rfl) ?_
            refine va_get (D := D) (ci := 8) (v := .ref mla) (C := RX8) (T := TX8) (N := 38) hx hb hts hi_X8_frail_8 hown hK hP 0 rfl rfl 14 (by decide) (hts (.fieldLink RX8 38 "TheLiningsInItModel" "lacks" "[I") (List.mem_of_getElem? (i := 2) rfl)) (fun _ h9 => h9) rfl dX8_frail_50 ?_
            refine lv_iload_n hx hb dX8_frail_53 rfl (lv_at hl 0 rfl) ?_
            refine lv_iconst (v := 0) hx hb dX8_frail_54 (by decide) ?_
            refine va_iast hx hb hK hP hD hS 1 0 rfl rfl (zf_in (by omega) (by omega)) dX8_frail_55 (fun H locs hP hD hS => ?_)
            have hpg_16 : zRg (upd g_11 i_4.toNatClampNeg 0) (0) 1 := zRg_upd hpg_11 (by decide) (by decide)
            obtain ⟨g_16, hg_16⟩ : ∃ g : Nat → Int32, g = upd g_11 i_4.toNatClampNeg 0 := ⟨_, rfl⟩
            rw [← hg_16] at hP hD hpg_16
            have h9R := zRe (ws' := [(zMO m0 npu nte nat_ nde nto nse nhu nga nsd nfa mrf mki mpa mta mla msl mco mhe mso msi msh mce mca mwo mnu mte nba npl nen nnu nwr mwa mke mma mth mtr nra nik), (mla, .inl (cI, 40, .inl g_16))]) hP hD rfl
            clear hP hD
            obtain ⟨hP, hD⟩ := h9R
            obtain ⟨x_17, ex_17⟩ : ∃ y : Int32, y = i_4 + 1 := ⟨_, rfl⟩
            have qx_17 : x_17.toInt = i_4.toInt + 1 := dw_inc ex_17 fc_4
            refine lv_iinc (v := x_17) (lv' := [(2, .int x_17), (1, .int v_2), (0, .ref m0)]) hx hb dX8_frail_56 hl (k := 0) rfl ex_17.symm (by decide) rfl (fun ls hl => ?_)
            refine lv_goto (tgt := 4) hx hb dX8_frail_59 (by decide) ?_
            exact ih x_17 v_2 (g_16) _ _ _ (hP.sub [0, 1] rfl) (hD.sub [0, 1] (by decide) rfl) hS (lv_sub hl [0, 1, 2] rfl) hpg_16 hbv_2 (show (g_16 = gla) from by (rw [hg_16, hg_11, hvi_4_0]; funext j; simp only [upd]; have h7 : i_4.toNatClampNeg = i_4.toInt.toNat := rfl; by_cases c : j = i_4.toNatClampNeg; (rw [if_pos c, c, h7]; exact Int32.toInt_inj.mp (show (0 : Int32).toInt = (gla i_4.toInt.toNat).toInt by (have k0 : (0 : Int32).toInt = 0 := (by decide); omega))); (rw [if_neg c, if_neg c]))) (show ((zHd gla nte.toInt → (v_2 : Int32).toInt = zCf gla nte.toInt x_17.toInt.toNat) ∧ (¬ zHd gla nte.toInt → (v_2 : Int32).toInt = 0)) from by (refine ⟨fun hd => ?_, fun hd => absurd (q1.1 (by omega)) hd⟩; have z := hvi_4_1.1 hd; have e7 : ((i_4.toInt.toNat : Nat) : Int) = i_4.toInt := (by omega); rw [show x_17.toInt.toNat = i_4.toInt.toNat + 1 from by omega, zCf_s]; rw [if_neg (by rintro ⟨-, z⟩; rw [e7] at z; exact ((q3 ()).mpr z) (q2.1 (by omega)))]; omega)) (show (v_2 : Int32).toInt ≤ x_17.toInt from by omega) (show x_17.toInt ≤ nte.toInt from by omega) (dw_lo hloi_4 qx_17) (dw_hn hni_4 qx_17)
          · have fc_15 : r_12.toInt = 0 := zf_eq c_15 rfl (by decide)
            obtain ⟨x_18, ex_18⟩ : ∃ y : Int32, y = v_2 + 1 := ⟨_, rfl⟩
            have qx_18 : x_18.toInt = v_2.toInt + 1 := by rw [ex_18]; exact zf_add rfl (by decide) (by omega) (by omega)
            refine lv_iinc (v := x_18) (lv' := [(1, .int x_18), (2, .int i_4), (0, .ref m0)]) hx hb dX8_frail_46 hl (k := 1) rfl ex_18.symm (by decide) rfl (fun ls hl => ?_)
            refine lv_aload_n hx hb dX8_frail_49 rfl (lv_at hl 2 rfl) ?_
            refine va_get (D := D) (ci := 8) (v := .ref mla) (C := RX8) (T := TX8) (N := 38) hx hb hts hi_X8_frail_8 hown hK hP 0 rfl rfl 14 (by decide) (hts (.fieldLink RX8 38 "TheLiningsInItModel" "lacks" "[I") (List.mem_of_getElem? (i := 2) rfl)) (fun _ h9 => h9) rfl dX8_frail_50 ?_
            refine lv_iload_n hx hb dX8_frail_53 rfl (lv_at hl 1 rfl) ?_
            refine lv_iconst (v := 0) hx hb dX8_frail_54 (by decide) ?_
            refine va_iast hx hb hK hP hD hS 1 0 rfl rfl (zf_in (by omega) (by omega)) dX8_frail_55 (fun H locs hP hD hS => ?_)
            have hpg_19 : zRg (upd g_11 i_4.toNatClampNeg 0) (0) 1 := zRg_upd hpg_11 (by decide) (by decide)
            obtain ⟨g_19, hg_19⟩ : ∃ g : Nat → Int32, g = upd g_11 i_4.toNatClampNeg 0 := ⟨_, rfl⟩
            rw [← hg_19] at hP hD hpg_19
            have h9R := zRe (ws' := [(zMO m0 npu nte nat_ nde nto nse nhu nga nsd nfa mrf mki mpa mta mla msl mco mhe mso msi msh mce mca mwo mnu mte nba npl nen nnu nwr mwa mke mma mth mtr nra nik), (mla, .inl (cI, 40, .inl g_19))]) hP hD rfl
            clear hP hD
            obtain ⟨hP, hD⟩ := h9R
            obtain ⟨x_20, ex_20⟩ : ∃ y : Int32, y = i_4 + 1 := ⟨_, rfl⟩
            have qx_20 : x_20.toInt = i_4.toInt + 1 := dw_inc ex_20 fc_4
            refine lv_iinc (v := x_20) (lv' := [(2, .int x_20), (1, .int x_18), (0, .ref m0)]) hx hb dX8_frail_56 hl (k := 1) rfl ex_20.symm (by decide) rfl (fun ls hl => ?_)
            refine lv_goto (tgt := 4) hx hb dX8_frail_59 (by decide) ?_
            exact ih x_20 x_18 (g_19) _ _ _ (hP.sub [0, 1] rfl) (hD.sub [0, 1] (by decide) rfl) hS (lv_sub hl [0, 1, 2] rfl) hpg_19 ⟨by omega, by omega⟩ (show (g_19 = gla) from by (rw [hg_19, hg_11, hvi_4_0]; funext j; simp only [upd]; have h7 : i_4.toNatClampNeg = i_4.toInt.toNat := rfl; by_cases c : j = i_4.toNatClampNeg; (rw [if_pos c, c, h7]; exact Int32.toInt_inj.mp (show (0 : Int32).toInt = (gla i_4.toInt.toNat).toInt by (have k0 : (0 : Int32).toInt = 0 := (by decide); omega))); (rw [if_neg c, if_neg c]))) (show ((zHd gla nte.toInt → (x_18 : Int32).toInt = zCf gla nte.toInt x_20.toInt.toNat) ∧ (¬ zHd gla nte.toInt → (x_18 : Int32).toInt = 0)) from by (refine ⟨fun hd => ?_, fun hd => absurd (q1.1 (by omega)) hd⟩; have z := hvi_4_1.1 hd; have e7 : ((i_4.toInt.toNat : Nat) : Int) = i_4.toInt := (by omega); rw [show x_20.toInt.toNat = i_4.toInt.toNat + 1 from by omega, zCf_s]; rw [if_pos ⟨by omega, by (rw [e7]; exact (q3 ()).mp (q2.2 (by omega)))⟩]; omega)) (show (x_18 : Int32).toInt ≤ x_20.toInt from by omega) (show x_20.toInt ≤ nte.toInt from by omega) (dw_lo hloi_4 qx_20) (dw_hn hni_4 qx_20)
        · have fc_10 : x_9.toInt = 1 := zf_eq c_10 rfl (by decide)
          refine lv_goto (tgt := 56) hx hb dX8_frail_29 (by decide) ?_
          obtain ⟨x_21, ex_21⟩ : ∃ y : Int32, y = i_4 + 1 := ⟨_, rfl⟩
          have qx_21 : x_21.toInt = i_4.toInt + 1 := dw_inc ex_21 fc_4
          refine lv_iinc (v := x_21) (lv' := [(2, .int x_21), (1, .int v_2), (0, .ref m0)]) hx hb dX8_frail_56 hl (k := 0) rfl ex_21.symm (by decide) rfl (fun ls hl => ?_)
          refine lv_goto (tgt := 4) hx hb dX8_frail_59 (by decide) ?_
          exact ih x_21 v_2 (g_1) _ _ _ (hP.sub [0, 1] rfl) (hD.sub [0, 1] (by decide) rfl) hS (lv_sub hl [0, 1, 2] rfl) hpg_1 hbv_2 (show (g_1 = gla) from by exact hvi_4_0) (show ((zHd gla nte.toInt → (v_2 : Int32).toInt = zCf gla nte.toInt x_21.toInt.toNat) ∧ (¬ zHd gla nte.toInt → (v_2 : Int32).toInt = 0)) from by (refine ⟨fun hd => ?_, fun hd => absurd (q1.1 (by omega)) hd⟩; have z := hvi_4_1.1 hd; have e7 : ((i_4.toInt.toNat : Nat) : Int) = i_4.toInt := (by omega); rw [show x_21.toInt.toNat = i_4.toInt.toNat + 1 from by omega, zCf_s]; rw [if_neg (by rintro ⟨z, -⟩; omega)]; omega)) (show (v_2 : Int32).toInt ≤ x_21.toInt from by omega) (show x_21.toInt ≤ nte.toInt from by omega) (dw_lo hloi_4 qx_21) (dw_hn hni_4 qx_21)
set_option maxHeartbeats 4000000 in
set_option maxRecDepth 100000 in
theorem c_F_M_lacking (l : Launch) (D : va_G) (cI cJ cZ cP cS : ClassId) (po : zPool) (m0 mrf mki mpa mta mla msl mco mhe mso msi msh mce mca mwo mnu mte mwa mke mma mth mtr : Nat) (npu nte nat_ nde nto nse nhu nga nsd nfa nba npl nen nnu nwr nra nik : Int32) (gla : Nat → Int32) (hy0 : 0 ≤ npu.toInt) (hy1 : npu.toInt ≤ 8) (hy2 : 4 ≤ nte.toInt) (hy3 : nte.toInt ≤ 40) (hy4 : 0 ≤ nat_.toInt) (hy5 : nat_.toInt ≤ 40) (hy6 : 0 ≤ nde.toInt) (hy7 : nde.toInt ≤ 24) (hy8 : 0 ≤ nhu.toInt) (hy9 : nhu.toInt ≤ 9) (hy10 : 0 ≤ nra.toInt) (hy11 : nra.toInt ≤ 2000) (hy12 : 0 ≤ nik.toInt) (hy13 : nik.toInt ≤ 1) (hp_gla : zRg gla (0) 1) : Met l yX8_lacking wsX8_lacking ({ frames := 0, cells := 0, slots := 0, locals := 0 }) (va_Pc [.ref m0] (zR D (zKT cI cJ cZ cP cS) po [(zMO m0 npu nte nat_ nde nto nse nhu nga nsd nfa mrf mki mpa mta mla msl mco mhe mso msi msh mce mca mwo mnu mte nba npl nen nnu nwr mwa mke mma mth mtr nra nik), (mla, .inl (cI, 40, .inl gla))])) (vp_Si (fun r => (r.toInt = zCl gla nte.toInt.toNat))) 0 0 (fun _ => False) := by
  refine Met.ofW (cc := cX8_lacking) (maxL := 3) (ret := (some .int)) (by decide) rfl ?_
  intro p e s m args below meth c s₁ B hml hv
  obtain ⟨rfl, hP, hK, hN, hZ⟩ := hv
  have hx := B.exec
  have hb := B.bytes
  have hr := B.returns
  have hts := atoms_spec (ws := wsX8_lacking) B.pre
  have hown : s.vm.findClass RX8 = some m.cls := findClass_of_methodNamed B.named
  have hlocks := B.notSynchronized
  have hl := lv_entry ([.ref m0]) (n := 3) (Nat.le_of_ble_eq_true rfl)
  rw [lg_entry_eq]
  generalize (lg_sl ([.ref m0]) ++ List.replicate (3 - (lg_sl ([.ref m0])).length) Slot.unset).toArray = ls at hl ⊢
  replace hl : lv_has ls 3 [(0, .ref m0)] := hl
  refine lv_iconst (v := 0) hx hb dX8_lacking_0 (by decide) ?_
  refine lv_istore_n (lv' := [(1, .int 0), (0, .ref m0)]) hx hb dX8_lacking_1 rfl hl (by decide) rfl (fun ls hl => ?_)
  refine lv_iconst (v := 0) hx hb dX8_lacking_2 (by decide) ?_
  refine lv_istore_n (lv' := [(2, .int 0), (1, .int 0), (0, .ref m0)]) hx hb dX8_lacking_3 rfl hl (by decide) rfl (fun ls hl => ?_)
  obtain ⟨i_4, hi_4⟩ : ∃ i : Int32, i = 0 := ⟨_, rfl⟩
  replace hl : lv_has ls 3 [(2, .int i_4), (1, .int 0), (0, .ref m0)] := by rw [hi_4]; exact lv_sub hl [0, 1, 2] rfl
  have h1i_4 : i_4.toInt = 0 := by rw [hi_4]; decide
  obtain ⟨nfu, hni_4⟩ : ∃ nq9 : Nat, nte.toInt ≤ i_4.toInt + (nq9 : Int) := ⟨((nte.toInt : Int) - 0).toNat, by omega⟩
  have hloi_4 : 0 ≤ i_4.toInt := by omega
  obtain ⟨v_1, hv_1⟩ : ∃ g : Int32, g = 0 := ⟨_, rfl⟩
  replace hl : lv_has ls 3 [(2, .int i_4), (1, .int v_1), (0, .ref m0)] := by rw [hv_1]; exact hl
  have hbv_1 : 0 ≤ v_1.toInt ∧ v_1.toInt ≤ 40 := by rw [hv_1]; exact ⟨by decide, by decide⟩
  have hvi_4_0 : (v_1 : Int32).toInt = zCl gla i_4.toInt.toNat := by
    (try rw [hi_4]); (try rw [hv_1]); (rw [(show ((0 : Int32).toInt.toNat) = 0 from by decide)]; show (0 : Int32).toInt = 0; decide)
  have hvi_4_1 : (v_1 : Int32).toInt ≤ i_4.toInt := by
    (try rw [hi_4]); (try rw [hv_1]); first | omega | decide
  have hvi_4_2 : i_4.toInt ≤ nte.toInt := by
    (try rw [hi_4]); (try rw [hv_1]); (have k0 : (0 : Int32).toInt = 0 := (by decide); omega)
  clear h1i_4 hi_4 hv_1
  revert hni_4
  revert hloi_4
  revert hvi_4_2
  revert hvi_4_1
  revert hvi_4_0
  revert hbv_1
  revert hl
  revert ls
  revert v_1
  revert i_4
  induction nfu with
  | zero =>
    intro i_4 v_1 ls hl hbv_1 hvi_4_0 hvi_4_1 hvi_4_2 hloi_4 hni_4
    have hzi_4 : nte.toInt ≤ i_4.toInt := by omega
    refine lv_iload_n hx hb dX8_lacking_4 rfl (lv_at hl 0 rfl) ?_
    refine lv_aload_n hx hb dX8_lacking_5 rfl (lv_at hl 2 rfl) ?_
    refine va_get (D := D) (ci := 8) (v := .int nte) (C := RX8) (T := TX8) (N := 38) hx hb hts hi_X8_lacking_8 hown hK hP 0 rfl rfl 1 (by decide) (hts (.fieldLink RX8 7 "TheLiningsInItModel" "teeth" "I") (List.mem_of_getElem? (i := 1) rfl)) (fun _ h9 => h9) rfl dX8_lacking_6 ?_
    refine lv_icmp_ge (tgt := 27) hx hb dX8_lacking_9 (by decide) (fun c_2 => ?_) (fun c_2 => ?_)
    · have fc_2 : nte.toInt ≤ i_4.toInt := zf_le c_2 rfl rfl
      refine lv_iload_n hx hb dX8_lacking_27 rfl (lv_at hl 1 rfl) ?_
      exact W.iret (v := v_1) hx hb hr (fun t ht hW => ⟨v_1, rfl, (show (v_1 : Int32).toInt = zCl gla nte.toInt.toNat from by (have h9 : i_4.toInt.toNat = nte.toInt.toNat := (by omega); have z := hvi_4_0; rw [h9] at z; exact z)), ht⟩) (fun q hq => by cases hq) dX8_lacking_28
    · exfalso; have fc_2 : i_4.toInt < nte.toInt := zf_nle c_2 rfl rfl; omega
  | succ nfu ih =>
    intro i_4 v_1 ls hl hbv_1 hvi_4_0 hvi_4_1 hvi_4_2 hloi_4 hni_4
    refine lv_iload_n hx hb dX8_lacking_4 rfl (lv_at hl 0 rfl) ?_
    refine lv_aload_n hx hb dX8_lacking_5 rfl (lv_at hl 2 rfl) ?_
    refine va_get (D := D) (ci := 8) (v := .int nte) (C := RX8) (T := TX8) (N := 38) hx hb hts hi_X8_lacking_8 hown hK hP 0 rfl rfl 1 (by decide) (hts (.fieldLink RX8 7 "TheLiningsInItModel" "teeth" "I") (List.mem_of_getElem? (i := 1) rfl)) (fun _ h9 => h9) rfl dX8_lacking_6 ?_
    refine lv_icmp_ge (tgt := 27) hx hb dX8_lacking_9 (by decide) (fun c_3 => ?_) (fun c_3 => ?_)
    · have fc_3 : nte.toInt ≤ i_4.toInt := zf_le c_3 rfl rfl
      refine lv_iload_n hx hb dX8_lacking_27 rfl (lv_at hl 1 rfl) ?_
      exact W.iret (v := v_1) hx hb hr (fun t ht hW => ⟨v_1, rfl, (show (v_1 : Int32).toInt = zCl gla nte.toInt.toNat from by (have h9 : i_4.toInt.toNat = nte.toInt.toNat := (by omega); have z := hvi_4_0; rw [h9] at z; exact z)), ht⟩) (fun q hq => by cases hq) dX8_lacking_28
    · have fc_3 : i_4.toInt < nte.toInt := zf_nle c_3 rfl rfl
      refine lv_iload_n hx hb dX8_lacking_12 rfl (lv_at hl 1 rfl) ?_
      refine lv_aload_n hx hb dX8_lacking_13 rfl (lv_at hl 2 rfl) ?_
      refine va_get (D := D) (ci := 8) (v := .ref mla) (C := RX8) (T := TX8) (N := 38) hx hb hts hi_X8_lacking_8 hown hK hP 0 rfl rfl 14 (by decide) (hts (.fieldLink RX8 38 "TheLiningsInItModel" "lacks" "[I") (List.mem_of_getElem? (i := 2) rfl)) (fun _ h9 => h9) rfl dX8_lacking_14 ?_
      refine lv_iload_n hx hb dX8_lacking_17 rfl (lv_at hl 0 rfl) ?_
      refine va_iald hx hb hK hP 1 0 rfl rfl (zf_in (by omega) (by omega)) dX8_lacking_18 ?_
      refine lv_topi (fun x_4 ex_4 => ?_)
      have bx_4 : 0 ≤ x_4.toInt ∧ x_4.toInt ≤ 1 := by rw [ex_4]; exact hp_gla _
      refine lv_iadd hx hb dX8_lacking_19 ?_
      refine lv_topi (fun x_5 ex_5 => ?_)
      have qx_5 : x_5.toInt = v_1.toInt + x_4.toInt := by rw [ex_5]; exact zf_add rfl rfl (by omega) (by omega)
      refine lv_istore_n (lv' := [(1, .int x_5), (2, .int i_4), (0, .ref m0)]) hx hb dX8_lacking_20 rfl hl (by decide) rfl (fun ls hl => ?_)
      obtain ⟨x_6, ex_6⟩ : ∃ y : Int32, y = i_4 + 1 := ⟨_, rfl⟩
      have qx_6 : x_6.toInt = i_4.toInt + 1 := dw_inc ex_6 fc_3
      refine lv_iinc (v := x_6) (lv' := [(2, .int x_6), (1, .int x_5), (0, .ref m0)]) hx hb dX8_lacking_21 hl (k := 1) rfl ex_6.symm (by decide) rfl (fun ls hl => ?_)
      refine lv_goto (tgt := 4) hx hb dX8_lacking_24 (by decide) ?_
      exact ih x_6 x_5 _ (lv_sub hl [0, 1, 2] rfl) ⟨by omega, by omega⟩ (show (x_5 : Int32).toInt = zCl gla x_6.toInt.toNat from by (have h8 : (gla i_4.toInt.toNat).toInt = x_4.toInt := (by rw [ex_4]; rfl); rw [show x_6.toInt.toNat = i_4.toInt.toNat + 1 from by omega, zCl_s]; omega)) (show (x_5 : Int32).toInt ≤ x_6.toInt from by omega) (show x_6.toInt ≤ nte.toInt from by omega) (dw_lo hloi_4 qx_6) (dw_hn hni_4 qx_6)
set_option maxHeartbeats 4000000 in
set_option maxRecDepth 100000 in
theorem c_F_M_doesCatch (l : Launch) (D : va_G) (cI cJ cZ cP cS : ClassId) (po : zPool) (m0 mrf mki mpa mta mla msl mco mhe mso msi msh mce mca mwo mnu mte mwa mke mma mth mtr : Nat) (npu nte nat_ nde nto nse nhu nga nsd nfa nba npl nen nnu nwr nra nik : Int32) (gla gsl : Nat → Int32) (t_ : Int32) (hy0 : 0 ≤ npu.toInt) (hy1 : npu.toInt ≤ 8) (hy2 : 4 ≤ nte.toInt) (hy3 : nte.toInt ≤ 40) (hy4 : 0 ≤ nat_.toInt) (hy5 : nat_.toInt ≤ 40) (hy6 : 0 ≤ nde.toInt) (hy7 : nde.toInt ≤ 24) (hy8 : 0 ≤ nhu.toInt) (hy9 : nhu.toInt ≤ 9) (hy10 : 0 ≤ nra.toInt) (hy11 : nra.toInt ≤ 2000) (hy12 : 0 ≤ nik.toInt) (hy13 : nik.toInt ≤ 1) (hy14 : 0 ≤ t_.toInt) (hy15 : t_.toInt ≤ 39) (hp_gla : zRg gla (0) 1) (hp_gsl : zRg gsl (0) 9) : Met l yX8_doesCatch wsX8_doesCatch ({ frames := 0, cells := 0, slots := 0, locals := 0 }) (va_Pc [.ref m0, .int t_] (zR D (zKT cI cJ cZ cP cS) po [(zMO m0 npu nte nat_ nde nto nse nhu nga nsd nfa mrf mki mpa mta mla msl mco mhe mso msi msh mce mca mwo mnu mte nba npl nen nnu nwr mwa mke mma mth mtr nra nik), (mla, .inl (cI, 40, .inl gla)), (msl, .inl (cI, 40, .inl gsl))])) (vp_Si (fun r => 0 ≤ r.toInt ∧ r.toInt ≤ 1 ∧ ((r.toInt = 1 → zCa gla gsl nga.toInt t_.toInt) ∧ (r.toInt = 0 → ¬ zCa gla gsl nga.toInt t_.toInt)))) 0 0 (fun _ => False) := by
  refine Met.ofW (cc := cX8_doesCatch) (maxL := 2) (ret := (some .boolean)) (by decide) rfl ?_
  intro p e s m args below meth c s₁ B hml hv
  obtain ⟨rfl, hP, hK, hN, hZ⟩ := hv
  have hx := B.exec
  have hb := B.bytes
  have hr := B.returns
  have hts := atoms_spec (ws := wsX8_doesCatch) B.pre
  have hown : s.vm.findClass RX8 = some m.cls := findClass_of_methodNamed B.named
  have hlocks := B.notSynchronized
  have hl := lv_entry ([.ref m0, .int t_]) (n := 2) (Nat.le_of_ble_eq_true rfl)
  rw [lg_entry_eq]
  generalize (lg_sl ([.ref m0, .int t_]) ++ List.replicate (2 - (lg_sl ([.ref m0, .int t_])).length) Slot.unset).toArray = ls at hl ⊢
  replace hl : lv_has ls 2 [(0, .ref m0), (1, .int t_)] := hl
  refine lv_aload_n hx hb dX8_doesCatch_0 rfl (lv_at hl 0 rfl) ?_
  refine va_get (D := D) (ci := 8) (v := .ref mla) (C := RX8) (T := TX8) (N := 38) hx hb hts hi_X8_doesCatch_8 hown hK hP 0 rfl rfl 14 (by decide) (hts (.fieldLink RX8 38 "TheLiningsInItModel" "lacks" "[I") (List.mem_of_getElem? (i := 1) rfl)) (fun _ h9 => h9) rfl dX8_doesCatch_1 ?_
  refine lv_iload_n hx hb dX8_doesCatch_4 rfl (lv_at hl 1 rfl) ?_
  refine va_iald hx hb hK hP 1 0 rfl rfl (zf_in (by omega) (by omega)) dX8_doesCatch_5 ?_
  refine lv_topi (fun x_1 ex_1 => ?_)
  have bx_1 : 0 ≤ x_1.toInt ∧ x_1.toInt ≤ 1 := by rw [ex_1]; exact hp_gla _
  refine lv_if_ne (tgt := 26) hx hb dX8_doesCatch_6 (by decide) (fun c_2 => ?_) (fun c_2 => ?_)
  · have fc_2 : x_1.toInt ≠ 0 := zf_ne c_2 rfl (by decide)
    refine lv_iconst (v := 0) hx hb dX8_doesCatch_26 (by decide) ?_
    exact W.zret (v := 0) hx hb hr (by decide) (fun t ht hW => ⟨0, rfl, ⟨by decide, by decide, (show ((0 : Int32).toInt = 1 → zCa gla gsl nga.toInt t_.toInt) ∧ ((0 : Int32).toInt = 0 → ¬ zCa gla gsl nga.toInt t_.toInt) from by (have h8 : (gla t_.toInt.toNat).toInt = x_1.toInt := (by rw [ex_1]; rfl); exact ⟨fun h => absurd h (by decide), fun _ => fun z => by (obtain ⟨z1, z2⟩ := z; omega)⟩))⟩, ht⟩) (fun q hq => by cases hq) dX8_doesCatch_27
  · have fc_2 : x_1.toInt = 0 := zf_eq c_2 rfl (by decide)
    refine lv_aload_n hx hb dX8_doesCatch_9 rfl (lv_at hl 0 rfl) ?_
    refine va_get (D := D) (ci := 8) (v := .ref msl) (C := RX8) (T := TX8) (N := 38) hx hb hts hi_X8_doesCatch_8 hown hK hP 0 rfl rfl 15 (by decide) (hts (.fieldLink RX8 41 "TheLiningsInItModel" "slack" "[I") (List.mem_of_getElem? (i := 2) rfl)) (fun _ h9 => h9) rfl dX8_doesCatch_10 ?_
    refine lv_iload_n hx hb dX8_doesCatch_13 rfl (lv_at hl 1 rfl) ?_
    refine va_iald hx hb hK hP 2 0 rfl rfl (zf_in (by omega) (by omega)) dX8_doesCatch_14 ?_
    refine lv_topi (fun x_3 ex_3 => ?_)
    have bx_3 : 0 ≤ x_3.toInt ∧ x_3.toInt ≤ 9 := by rw [ex_3]; exact hp_gsl _
    refine lv_aload_n hx hb dX8_doesCatch_15 rfl (lv_at hl 0 rfl) ?_
    refine va_get (D := D) (ci := 8) (v := .int nga) (C := RX8) (T := TX8) (N := 38) hx hb hts hi_X8_doesCatch_8 hown hK hP 0 rfl rfl 7 (by decide) (hts (.fieldLink RX8 16 "TheLiningsInItModel" "gap" "I") (List.mem_of_getElem? (i := 3) rfl)) (fun _ h9 => h9) rfl dX8_doesCatch_16 ?_
    refine lv_icmp_lt (tgt := 26) hx hb dX8_doesCatch_19 (by decide) (fun c_4 => ?_) (fun c_4 => ?_)
    · have fc_4 : x_3.toInt < nga.toInt := zf_lt c_4 rfl rfl
      refine lv_iconst (v := 0) hx hb dX8_doesCatch_26 (by decide) ?_
      exact W.zret (v := 0) hx hb hr (by decide) (fun t ht hW => ⟨0, rfl, ⟨by decide, by decide, (show ((0 : Int32).toInt = 1 → zCa gla gsl nga.toInt t_.toInt) ∧ ((0 : Int32).toInt = 0 → ¬ zCa gla gsl nga.toInt t_.toInt) from by (have h8 : (gla t_.toInt.toNat).toInt = x_1.toInt := (by rw [ex_1]; rfl); have h9 : (gsl t_.toInt.toNat).toInt = x_3.toInt := (by rw [ex_3]; rfl); exact ⟨fun h => absurd h (by decide), fun _ => fun z => by (obtain ⟨z1, z2⟩ := z; omega)⟩))⟩, ht⟩) (fun q hq => by cases hq) dX8_doesCatch_27
    · have fc_4 : nga.toInt ≤ x_3.toInt := zf_nlt c_4 rfl rfl
      refine lv_iconst (v := 1) hx hb dX8_doesCatch_22 (by decide) ?_
      refine lv_goto (tgt := 27) hx hb dX8_doesCatch_23 (by decide) ?_
      exact W.zret (v := 1) hx hb hr (by decide) (fun t ht hW => ⟨1, rfl, ⟨by decide, by decide, (show ((1 : Int32).toInt = 1 → zCa gla gsl nga.toInt t_.toInt) ∧ ((1 : Int32).toInt = 0 → ¬ zCa gla gsl nga.toInt t_.toInt) from by (have h8 : (gla t_.toInt.toNat).toInt = x_1.toInt := (by rw [ex_1]; rfl); have h9 : (gsl t_.toInt.toNat).toInt = x_3.toInt := (by rw [ex_3]; rfl); exact ⟨fun _ => ⟨by omega, by omega⟩, fun h => absurd h (by decide)⟩))⟩, ht⟩) (fun q hq => by cases hq) dX8_doesCatch_27
set_option maxHeartbeats 4000000 in
set_option maxRecDepth 100000 in
theorem c_F_M_catches (l : Launch) (D : va_G) (cI cJ cZ cP cS : ClassId) (po : zPool) (m0 mrf mki mpa mta mla msl mco mhe mso msi msh mce mca mwo mnu mte mwa mke mma mth mtr : Nat) (npu nte nat_ nde nto nse nhu nga nsd nfa nba npl nen nnu nwr nra nik : Int32) (grf gla gsl : Nat → Int32) (i : Int32) (hy0 : 0 ≤ npu.toInt) (hy1 : npu.toInt ≤ 8) (hy2 : 4 ≤ nte.toInt) (hy3 : nte.toInt ≤ 40) (hy4 : 0 ≤ nat_.toInt) (hy5 : nat_.toInt ≤ 40) (hy6 : 0 ≤ nde.toInt) (hy7 : nde.toInt ≤ 24) (hy8 : 0 ≤ nhu.toInt) (hy9 : nhu.toInt ≤ 9) (hy10 : 0 ≤ nra.toInt) (hy11 : nra.toInt ≤ 2000) (hy12 : 0 ≤ nik.toInt) (hy13 : nik.toInt ≤ 1) (hp_gla : zRg gla (0) 1) (hp_gsl : zRg gsl (0) 9) (hpz : Nat) : Met l yX8_catches wsX8_catches ({ frames := 1, cells := 0, slots := 0, locals := 21 }) (va_Pc [.ref m0, .int i] (zW D (zKT cI cJ cZ cP cS) po [(zMO m0 npu nte nat_ nde nto nse nhu nga nsd nfa mrf mki mpa mta mla msl mco mhe mso msi msh mce mca mwo mnu mte nba npl nen nnu nwr mwa mke mma mth mtr nra nik), (mrf, .inl (cI, 8, .inl grf)), (mla, .inl (cI, 40, .inl gla)), (msl, .inl (cI, 40, .inl gsl))] hpz)) (va_Qi (fun (r : Int32) (grf2 : (Nat → Int32)) => ((i.toInt < -1 → r.toInt = -5) ∧ (-1 ≤ i.toInt → ∃ q : Int, zCat gla gsl nga.toInt nte.toInt i.toInt q ∧ r.toInt = (if q = -1 then -5 else q))) ∧ (True)) (zB D [(zMO m0 npu nte nat_ nde nto nse nhu nga nsd nfa mrf mki mpa mta mla msl mco mhe mso msi msh mce mca mwo mnu mte nba npl nen nnu nwr mwa mke mma mth mtr nra nik), (mrf, .inl (cI, 8, .inl grf)), (mla, .inl (cI, 40, .inl gla)), (msl, .inl (cI, 40, .inl gsl))] hpz (fun (grf2 : Nat → Int32) => [(zMO m0 npu nte nat_ nde nto nse nhu nga nsd nfa mrf mki mpa mta mla msl mco mhe mso msi msh mce mca mwo mnu mte nba npl nen nnu nwr mwa mke mma mth mtr nra nik), (mrf, .inl (cI, 8, .inl grf2)), (mla, .inl (cI, 40, .inl gla)), (msl, .inl (cI, 40, .inl gsl))])) (va_A [(zMO m0 npu nte nat_ nde nto nse nhu nga nsd nfa mrf mki mpa mta mla msl mco mhe mso msi msh mce mca mwo mnu mte nba npl nen nnu nwr mwa mke mma mth mtr nra nik), (mrf, .inl (cI, 8, .inl grf)), (mla, .inl (cI, 40, .inl gla)), (msl, .inl (cI, 40, .inl gsl))] hpz)) 0 0 (va_A [(zMO m0 npu nte nat_ nde nto nse nhu nga nsd nfa mrf mki mpa mta mla msl mco mhe mso msi msh mce mca mwo mnu mte nba npl nen nnu nwr mwa mke mma mth mtr nra nik), (mrf, .inl (cI, 8, .inl grf)), (mla, .inl (cI, 40, .inl gla)), (msl, .inl (cI, 40, .inl gsl))] hpz) := by
  refine Met.ofW (cc := cX8_catches) (maxL := 4) (ret := (some .int)) (by decide) rfl ?_
  intro p e s m args below meth c s₁ B hml hv
  obtain ⟨rfl, hsz, hP, hK, hD0, hN, hZ⟩ := hv
  have hx := B.exec
  have hb := B.bytes
  have hr := B.returns
  have hts := atoms_spec (ws := wsX8_catches) B.pre
  have hown : s.vm.findClass RX8 = some m.cls := findClass_of_methodNamed B.named
  have hlocks := B.notSynchronized
  subst hsz
  have hD := hD0.self (sz := s.heap.size)
  have hA := zA_of hD
  have hl := lv_entry ([.ref m0, .int i]) (n := 4) (Nat.le_of_ble_eq_true rfl)
  rw [lg_entry_eq]
  generalize (lg_sl ([.ref m0, .int i]) ++ List.replicate (4 - (lg_sl ([.ref m0, .int i])).length) Slot.unset).toArray = ls at hl ⊢
  replace hl : lv_has ls 4 [(0, .ref m0), (1, .int i)] := hl
  refine zw_begin hP hD (fun H locs hP1 hS => ?_)
  clear hP
  have hP := hP1
  clear hP1
  refine lv_iload_n hx hb dX8_catches_0 rfl (lv_at hl 1 rfl) ?_
  refine lv_iconst (v := (-1)) hx hb dX8_catches_1 (by decide) ?_
  refine lv_icmp_ge (tgt := 12) hx hb dX8_catches_2 (by decide) (fun c_1 => ?_) (fun c_1 => ?_)
  · have fc_1 : (-1) ≤ i.toInt := zf_le c_1 (by decide) rfl
    refine lv_iconst (v := 0) hx hb dX8_catches_12 (by decide) ?_
    refine lv_istore_n (lv' := [(2, .int 0), (0, .ref m0), (1, .int i)]) hx hb dX8_catches_13 rfl hl (by decide) rfl (fun ls hl => ?_)
    refine lv_iconst (v := 0) hx hb dX8_catches_14 (by decide) ?_
    refine lv_istore_n (lv' := [(3, .int 0), (2, .int 0), (0, .ref m0), (1, .int i)]) hx hb dX8_catches_15 rfl hl (by decide) rfl (fun ls hl => ?_)
    obtain ⟨i_16, hi_16⟩ : ∃ i : Int32, i = 0 := ⟨_, rfl⟩
    replace hl : lv_has ls 4 [(3, .int i_16), (2, .int 0), (0, .ref m0), (1, .int i)] := by rw [hi_16]; exact lv_sub hl [0, 1, 2, 3] rfl
    have h1i_16 : i_16.toInt = 0 := by rw [hi_16]; decide
    obtain ⟨nfu, hni_16⟩ : ∃ nq9 : Nat, nte.toInt ≤ i_16.toInt + (nq9 : Int) := ⟨((nte.toInt : Int) - 0).toNat, by omega⟩
    have hloi_16 : 0 ≤ i_16.toInt := by omega
    obtain ⟨v_2, hv_2⟩ : ∃ g : Int32, g = 0 := ⟨_, rfl⟩
    replace hl : lv_has ls 4 [(3, .int i_16), (2, .int v_2), (0, .ref m0), (1, .int i)] := by rw [hv_2]; exact hl
    have hbv_2 : 0 ≤ v_2.toInt ∧ v_2.toInt ≤ 40 := by rw [hv_2]; exact ⟨by decide, by decide⟩
    have hvi_16_0 : (v_2 : Int32).toInt = zCn gla gsl nga.toInt i_16.toInt.toNat := by
      (try rw [hi_16]); (try rw [hv_2]); (rw [(show ((0 : Int32).toInt.toNat) = 0 from by decide)]; show (0 : Int32).toInt = 0; decide)
    have hvi_16_1 : (∀ t : Nat, (t : Int) < i_16.toInt → zCa gla gsl nga.toInt (t : Int) → zCn gla gsl nga.toInt t ≠ i.toInt) := by
      (try rw [hi_16]); (try rw [hv_2]); (intro t h1 h2; exfalso; have k0 : (0 : Int32).toInt = 0 := (by decide); omega)
    have hvi_16_2 : (v_2 : Int32).toInt ≤ i_16.toInt := by
      (try rw [hi_16]); (try rw [hv_2]); first | omega | decide
    have hvi_16_3 : i_16.toInt ≤ nte.toInt := by
      (try rw [hi_16]); (try rw [hv_2]); (have k0 : (0 : Int32).toInt = 0 := (by decide); omega)
    clear h1i_16 hi_16 hv_2
    skip
    revert hni_16
    revert hloi_16
    revert hvi_16_3
    revert hvi_16_2
    revert hvi_16_1
    revert hvi_16_0
    revert hbv_2
    revert hl
    revert hS
    revert hD
    revert hP
    revert ls
    revert locs
    revert H
    revert v_2
    revert i_16
    induction nfu with
    | zero =>
      intro i_16 v_2 H locs ls hP hD hS hl hbv_2 hvi_16_0 hvi_16_1 hvi_16_2 hvi_16_3 hloi_16 hni_16
      have hzi_16 : nte.toInt ≤ i_16.toInt := by omega
      refine lv_iload_n hx hb dX8_catches_16 rfl (lv_at hl 0 rfl) ?_
      refine lv_aload_n hx hb dX8_catches_17 rfl (lv_at hl 2 rfl) ?_
      refine va_get (D := D) (ci := 8) (v := .int nte) (C := RX8) (T := TX8) (N := 38) hx hb hts hi_X8_catches_8 hown hK hP 0 rfl rfl 1 (by decide) (hts (.fieldLink RX8 7 "TheLiningsInItModel" "teeth" "I") (List.mem_of_getElem? (i := 1) rfl)) (fun _ h9 => h9) rfl dX8_catches_18 ?_
      refine lv_icmp_ge (tgt := 51) hx hb dX8_catches_21 (by decide) (fun c_3 => ?_) (fun c_3 => ?_)
      · have fc_3 : nte.toInt ≤ i_16.toInt := zf_le c_3 rfl rfl
        refine lv_iload_n hx hb dX8_catches_51 rfl (lv_at hl 3 rfl) ?_
        refine lv_iconst (v := (-1)) hx hb dX8_catches_52 (by decide) ?_
        refine lv_icmp_ne (tgt := 60) hx hb dX8_catches_53 (by decide) (fun c_4 => ?_) (fun c_4 => ?_)
        · have fc_4 : i.toInt ≠ (-1) := zf_ne c_4 rfl (by decide)
          refine lv_aload_n hx hb dX8_catches_60 rfl (lv_at hl 2 rfl) ?_
          refine lv_bipush (v := (-5)) hx hb dX8_catches_61 (by decide) ?_
          skip
          refine zw_V (As := [.int (-5)]) (rest := []) (wr := [(mla, .inl (cI, 40, .inl gla)), (msl, .inl (cI, 40, .inl gsl))]) ⟨hx, hb, hml, hown, hts⟩ (c_M_no_5 l D cI cJ cZ cP cS po m0 mrf mki mpa mta mla msl mco mhe mso msi msh mce mca mwo mnu mte mwa mke mma mth mtr (npu) (nte) (nat_) (nde) (nto) (nse) (nhu) (nga) (nsd) (nfa) (nba) (npl) (nen) (nnu) (nwr) (nra) (nik) grf hy0 hy1 hy2 hy3 hy4 hy5 hy6 hy7 hy8 hy9 hy10 hy11 hy12 hy13 H.size) (cwV 1 hts gX8_catches_X8_no rfl rfl rfl ⟨rfl, dh_X8_no⟩ ⟨Nat.le_of_ble_eq_true rfl, Nat.le_of_ble_eq_true rfl⟩) hK hN (hZ.kept hS) hP hD hS hA [0, 1] [2, 3] rfl rfl (by decide) (by decide) (by decide) (va_recv (q := (RX8, TX8, 38)) hK hP (ci := 8) (q0 := 0) rfl rfl) rfl hl.1 rfl (Nat.le_of_ble_eq_true rfl) dX8_catches_63 ⟨Nat.le_of_ble_eq_true rfl, Nat.le_of_ble_eq_true rfl⟩ (fun r_5 u_6 H locs hr_5 hP hD hS => ?_)
          obtain ⟨q_7, rfl⟩ : ∃ z, z = u_6 := ⟨_, rfl⟩
          have h9R := zRe (ws' := [(mla, .inl (cI, 40, .inl gla)), (msl, .inl (cI, 40, .inl gsl)), (zMO m0 npu nte nat_ nde nto nse nhu nga nsd nfa mrf mki mpa mta mla msl mco mhe mso msi msh mce mca mwo mnu mte nba npl nen nnu nwr mwa mke mma mth mtr nra nik), (mrf, .inl (cI, 8, .inl q_7))]) hP hD rfl
          clear hP hD
          obtain ⟨hP, hD⟩ := h9R
          obtain rfl := hr_5
          exact W.iret (v := (-5)) hx hb hr (fun t ht hW => ⟨⟨(-5), q_7, rfl, ⟨(show (i.toInt < -1 → ((-5) : Int32).toInt = -5) ∧ (-1 ≤ i.toInt → ∃ q : Int, zCat gla gsl nga.toInt nte.toInt i.toInt q ∧ ((-5) : Int32).toInt = (if q = -1 then -5 else q)) from by (have km : ((-5) : Int32).toInt = -5 := (by decide); refine ⟨fun h => by (exfalso; omega), fun _ => ?_⟩; have h9 : i_16.toInt.toNat = nte.toInt.toNat := (by omega); have z := hvi_16_0; rw [h9] at z; first | (refine ⟨(-5).toInt, Or.inr ⟨fun t h1 h2 => hvi_16_1 t (by omega) h2, ?_⟩, ?_⟩; (rw [if_pos (by omega)]; exact z); (rw [if_neg (by omega)])) | (refine ⟨-1, Or.inr ⟨fun t h1 h2 => hvi_16_1 t (by omega) h2, ?_⟩, ?_⟩; (rw [if_neg (by omega)]); (rw [if_pos rfl]; first | exact km | omega)))), trivial⟩, zRet ht hP hD [2, 3, 0, 1] (by decide) rfl⟩, hS.F ht⟩) hS.2.2 dX8_catches_66
        · have fc_4 : i.toInt = (-1) := zf_eq c_4 rfl (by decide)
          refine lv_iload_n hx hb dX8_catches_56 rfl (lv_at hl 1 rfl) ?_
          refine lv_goto (tgt := 66) hx hb dX8_catches_57 (by decide) ?_
          exact W.iret (v := v_2) hx hb hr (fun t ht hW => ⟨⟨v_2, grf, rfl, ⟨(show (i.toInt < -1 → (v_2 : Int32).toInt = -5) ∧ (-1 ≤ i.toInt → ∃ q : Int, zCat gla gsl nga.toInt nte.toInt i.toInt q ∧ (v_2 : Int32).toInt = (if q = -1 then -5 else q)) from by (have km : ((-5) : Int32).toInt = -5 := (by decide); refine ⟨fun h => by (exfalso; omega), fun _ => ?_⟩; have h9 : i_16.toInt.toNat = nte.toInt.toNat := (by omega); have z := hvi_16_0; rw [h9] at z; first | (refine ⟨v_2.toInt, Or.inr ⟨fun t h1 h2 => hvi_16_1 t (by omega) h2, ?_⟩, ?_⟩; (rw [if_pos (by omega)]; exact z); (rw [if_neg (by omega)])) | (refine ⟨-1, Or.inr ⟨fun t h1 h2 => hvi_16_1 t (by omega) h2, ?_⟩, ?_⟩; (rw [if_neg (by omega)]); (rw [if_pos rfl]; first | exact km | omega)))), trivial⟩, zRet ht hP hD [0, 1, 2, 3] (by decide) rfl⟩, hS.F ht⟩) hS.2.2 dX8_catches_66
      · exfalso; have fc_3 : i_16.toInt < nte.toInt := zf_nle c_3 rfl rfl; omega
    | succ nfu ih =>
      intro i_16 v_2 H locs ls hP hD hS hl hbv_2 hvi_16_0 hvi_16_1 hvi_16_2 hvi_16_3 hloi_16 hni_16
      refine lv_iload_n hx hb dX8_catches_16 rfl (lv_at hl 0 rfl) ?_
      refine lv_aload_n hx hb dX8_catches_17 rfl (lv_at hl 2 rfl) ?_
      refine va_get (D := D) (ci := 8) (v := .int nte) (C := RX8) (T := TX8) (N := 38) hx hb hts hi_X8_catches_8 hown hK hP 0 rfl rfl 1 (by decide) (hts (.fieldLink RX8 7 "TheLiningsInItModel" "teeth" "I") (List.mem_of_getElem? (i := 1) rfl)) (fun _ h9 => h9) rfl dX8_catches_18 ?_
      refine lv_icmp_ge (tgt := 51) hx hb dX8_catches_21 (by decide) (fun c_8 => ?_) (fun c_8 => ?_)
      · have fc_8 : nte.toInt ≤ i_16.toInt := zf_le c_8 rfl rfl
        refine lv_iload_n hx hb dX8_catches_51 rfl (lv_at hl 3 rfl) ?_
        refine lv_iconst (v := (-1)) hx hb dX8_catches_52 (by decide) ?_
        refine lv_icmp_ne (tgt := 60) hx hb dX8_catches_53 (by decide) (fun c_9 => ?_) (fun c_9 => ?_)
        · have fc_9 : i.toInt ≠ (-1) := zf_ne c_9 rfl (by decide)
          refine lv_aload_n hx hb dX8_catches_60 rfl (lv_at hl 2 rfl) ?_
          refine lv_bipush (v := (-5)) hx hb dX8_catches_61 (by decide) ?_
          skip
          refine zw_V (As := [.int (-5)]) (rest := []) (wr := [(mla, .inl (cI, 40, .inl gla)), (msl, .inl (cI, 40, .inl gsl))]) ⟨hx, hb, hml, hown, hts⟩ (c_M_no_5 l D cI cJ cZ cP cS po m0 mrf mki mpa mta mla msl mco mhe mso msi msh mce mca mwo mnu mte mwa mke mma mth mtr (npu) (nte) (nat_) (nde) (nto) (nse) (nhu) (nga) (nsd) (nfa) (nba) (npl) (nen) (nnu) (nwr) (nra) (nik) grf hy0 hy1 hy2 hy3 hy4 hy5 hy6 hy7 hy8 hy9 hy10 hy11 hy12 hy13 H.size) (cwV 1 hts gX8_catches_X8_no rfl rfl rfl ⟨rfl, dh_X8_no⟩ ⟨Nat.le_of_ble_eq_true rfl, Nat.le_of_ble_eq_true rfl⟩) hK hN (hZ.kept hS) hP hD hS hA [0, 1] [2, 3] rfl rfl (by decide) (by decide) (by decide) (va_recv (q := (RX8, TX8, 38)) hK hP (ci := 8) (q0 := 0) rfl rfl) rfl hl.1 rfl (Nat.le_of_ble_eq_true rfl) dX8_catches_63 ⟨Nat.le_of_ble_eq_true rfl, Nat.le_of_ble_eq_true rfl⟩ (fun r_10 u_11 H locs hr_10 hP hD hS => ?_)
          obtain ⟨q_12, rfl⟩ : ∃ z, z = u_11 := ⟨_, rfl⟩
          have h9R := zRe (ws' := [(mla, .inl (cI, 40, .inl gla)), (msl, .inl (cI, 40, .inl gsl)), (zMO m0 npu nte nat_ nde nto nse nhu nga nsd nfa mrf mki mpa mta mla msl mco mhe mso msi msh mce mca mwo mnu mte nba npl nen nnu nwr mwa mke mma mth mtr nra nik), (mrf, .inl (cI, 8, .inl q_12))]) hP hD rfl
          clear hP hD
          obtain ⟨hP, hD⟩ := h9R
          obtain rfl := hr_10
          exact W.iret (v := (-5)) hx hb hr (fun t ht hW => ⟨⟨(-5), q_12, rfl, ⟨(show (i.toInt < -1 → ((-5) : Int32).toInt = -5) ∧ (-1 ≤ i.toInt → ∃ q : Int, zCat gla gsl nga.toInt nte.toInt i.toInt q ∧ ((-5) : Int32).toInt = (if q = -1 then -5 else q)) from by (have km : ((-5) : Int32).toInt = -5 := (by decide); refine ⟨fun h => by (exfalso; omega), fun _ => ?_⟩; have h9 : i_16.toInt.toNat = nte.toInt.toNat := (by omega); have z := hvi_16_0; rw [h9] at z; first | (refine ⟨(-5).toInt, Or.inr ⟨fun t h1 h2 => hvi_16_1 t (by omega) h2, ?_⟩, ?_⟩; (rw [if_pos (by omega)]; exact z); (rw [if_neg (by omega)])) | (refine ⟨-1, Or.inr ⟨fun t h1 h2 => hvi_16_1 t (by omega) h2, ?_⟩, ?_⟩; (rw [if_neg (by omega)]); (rw [if_pos rfl]; first | exact km | omega)))), trivial⟩, zRet ht hP hD [2, 3, 0, 1] (by decide) rfl⟩, hS.F ht⟩) hS.2.2 dX8_catches_66
        · have fc_9 : i.toInt = (-1) := zf_eq c_9 rfl (by decide)
          refine lv_iload_n hx hb dX8_catches_56 rfl (lv_at hl 1 rfl) ?_
          refine lv_goto (tgt := 66) hx hb dX8_catches_57 (by decide) ?_
          exact W.iret (v := v_2) hx hb hr (fun t ht hW => ⟨⟨v_2, grf, rfl, ⟨(show (i.toInt < -1 → (v_2 : Int32).toInt = -5) ∧ (-1 ≤ i.toInt → ∃ q : Int, zCat gla gsl nga.toInt nte.toInt i.toInt q ∧ (v_2 : Int32).toInt = (if q = -1 then -5 else q)) from by (have km : ((-5) : Int32).toInt = -5 := (by decide); refine ⟨fun h => by (exfalso; omega), fun _ => ?_⟩; have h9 : i_16.toInt.toNat = nte.toInt.toNat := (by omega); have z := hvi_16_0; rw [h9] at z; first | (refine ⟨v_2.toInt, Or.inr ⟨fun t h1 h2 => hvi_16_1 t (by omega) h2, ?_⟩, ?_⟩; (rw [if_pos (by omega)]; exact z); (rw [if_neg (by omega)])) | (refine ⟨-1, Or.inr ⟨fun t h1 h2 => hvi_16_1 t (by omega) h2, ?_⟩, ?_⟩; (rw [if_neg (by omega)]); (rw [if_pos rfl]; first | exact km | omega)))), trivial⟩, zRet ht hP hD [0, 1, 2, 3] (by decide) rfl⟩, hS.F ht⟩) hS.2.2 dX8_catches_66
      · have fc_8 : i_16.toInt < nte.toInt := zf_nle c_8 rfl rfl
        refine lv_aload_n hx hb dX8_catches_24 rfl (lv_at hl 2 rfl) ?_
        refine lv_iload_n hx hb dX8_catches_25 rfl (lv_at hl 0 rfl) ?_
        refine zc_V (As := [.int i_16]) (rest := []) ⟨hx, hb, hml, hown, hts⟩ (c_F_M_doesCatch l D cI cJ cZ cP cS po m0 mrf mki mpa mta mla msl mco mhe mso msi msh mce mca mwo mnu mte mwa mke mma mth mtr (npu) (nte) (nat_) (nde) (nto) (nse) (nhu) (nga) (nsd) (nfa) (nba) (npl) (nen) (nnu) (nwr) (nra) (nik) gla gsl (i_16) hy0 hy1 hy2 hy3 hy4 hy5 hy6 hy7 hy8 hy9 hy10 hy11 hy12 hy13 (by omega) (by omega) hp_gla hp_gsl) (cwV 1 hts gX8_catches_X8_doesCatch rfl rfl rfl ⟨rfl, dh_X8_doesCatch⟩ ⟨Nat.le_of_ble_eq_true rfl, Nat.le_of_ble_eq_true rfl⟩) hK hN (hZ.kept hS) hP (hP.sub [0, 2, 3] rfl) (va_recv (q := (RX8, TX8, 38)) hK hP (ci := 8) (q0 := 0) rfl rfl) rfl hl.1 rfl (Nat.le_of_ble_eq_true rfl) dX8_catches_26 ⟨Nat.le_of_ble_eq_true rfl, Nat.le_of_ble_eq_true rfl⟩ (fun r_13 hr_13 => ?_)
        obtain ⟨g_14, g_15, hsr_13_0⟩ := hr_13
        refine lv_if_ne (tgt := 35) hx hb dX8_catches_29 (by decide) (fun c_16 => ?_) (fun c_16 => ?_)
        · have fc_16 : r_13.toInt ≠ 0 := zf_ne c_16 rfl (by decide)
          refine lv_iload_n hx hb dX8_catches_35 rfl (lv_at hl 1 rfl) ?_
          refine lv_iload_n hx hb dX8_catches_36 rfl (lv_at hl 3 rfl) ?_
          refine lv_icmp_ne (tgt := 42) hx hb dX8_catches_37 (by decide) (fun c_17 => ?_) (fun c_17 => ?_)
          · have fc_17 : v_2.toInt ≠ i.toInt := zf_ne c_17 rfl rfl
            obtain ⟨x_18, ex_18⟩ : ∃ y : Int32, y = v_2 + 1 := ⟨_, rfl⟩
            have qx_18 : x_18.toInt = v_2.toInt + 1 := by rw [ex_18]; exact zf_add rfl (by decide) (by omega) (by omega)
            refine lv_iinc (v := x_18) (lv' := [(2, .int x_18), (3, .int i_16), (0, .ref m0), (1, .int i)]) hx hb dX8_catches_42 hl (k := 1) rfl ex_18.symm (by decide) rfl (fun ls hl => ?_)
            obtain ⟨x_19, ex_19⟩ : ∃ y : Int32, y = i_16 + 1 := ⟨_, rfl⟩
            have qx_19 : x_19.toInt = i_16.toInt + 1 := dw_inc ex_19 fc_8
            refine lv_iinc (v := x_19) (lv' := [(3, .int x_19), (2, .int x_18), (0, .ref m0), (1, .int i)]) hx hb dX8_catches_45 hl (k := 1) rfl ex_19.symm (by decide) rfl (fun ls hl => ?_)
            refine lv_goto (tgt := 16) hx hb dX8_catches_48 (by decide) ?_
            exact ih x_19 x_18 _ _ _ (hP.sub [0, 1, 2, 3] rfl) (hD.sub [0, 1, 2, 3] (by decide) rfl) hS (lv_sub hl [0, 1, 2, 3] rfl) ⟨by omega, by omega⟩ (show (x_18 : Int32).toInt = zCn gla gsl nga.toInt x_19.toInt.toNat from by (have e7 : ((i_16.toInt.toNat : Nat) : Int) = i_16.toInt := (by omega); rw [show x_19.toInt.toNat = i_16.toInt.toNat + 1 from by omega, zCn_s]; first | (rw [if_pos (by rw [e7]; exact hsr_13_0.1 (by omega))]; omega) | (rw [if_neg (by rw [e7]; exact hsr_13_0.2 (by omega))]; omega))) (show (∀ t : Nat, (t : Int) < x_19.toInt → zCa gla gsl nga.toInt (t : Int) → zCn gla gsl nga.toInt t ≠ i.toInt) from by (intro t h1 h2; rcases (show (t : Int) < i_16.toInt ∨ (t : Int) = i_16.toInt by omega) with h3 | h3; (exact hvi_16_1 t h3 h2); (have h4 : t = i_16.toInt.toNat := (by omega); first | (rw [h4, ← hvi_16_0]; omega) | (exact absurd (by rw [← h3]; exact h2) (hsr_13_0.2 (by omega)))))) (show (x_18 : Int32).toInt ≤ x_19.toInt from by omega) (show x_19.toInt ≤ nte.toInt from by omega) (dw_lo hloi_16 qx_19) (dw_hn hni_16 qx_19)
          · have fc_17 : v_2.toInt = i.toInt := zf_eq c_17 rfl rfl
            refine lv_iload_n hx hb dX8_catches_40 rfl (lv_at hl 0 rfl) ?_
            exact W.iret (v := i_16) hx hb hr (fun t ht hW => ⟨⟨i_16, grf, rfl, ⟨(show (i.toInt < -1 → (i_16 : Int32).toInt = -5) ∧ (-1 ≤ i.toInt → ∃ q : Int, zCat gla gsl nga.toInt nte.toInt i.toInt q ∧ (i_16 : Int32).toInt = (if q = -1 then -5 else q)) from by (have km : ((-5) : Int32).toInt = -5 := (by decide); refine ⟨fun h => by (exfalso; omega), fun _ => ?_⟩; have e7 : ((i_16.toInt.toNat : Nat) : Int) = i_16.toInt := (by omega); refine ⟨i_16.toInt, Or.inl ⟨i_16.toInt.toNat, by omega, by (rw [e7]; exact hsr_13_0.1 (by omega)), by omega, by omega⟩, ?_⟩; rw [if_neg (by omega)])), trivial⟩, zRet ht hP hD [0, 1, 2, 3] (by decide) rfl⟩, hS.F ht⟩) hS.2.2 dX8_catches_41
        · have fc_16 : r_13.toInt = 0 := zf_eq c_16 rfl (by decide)
          refine lv_goto (tgt := 45) hx hb dX8_catches_32 (by decide) ?_
          obtain ⟨x_20, ex_20⟩ : ∃ y : Int32, y = i_16 + 1 := ⟨_, rfl⟩
          have qx_20 : x_20.toInt = i_16.toInt + 1 := dw_inc ex_20 fc_8
          refine lv_iinc (v := x_20) (lv' := [(3, .int x_20), (2, .int v_2), (0, .ref m0), (1, .int i)]) hx hb dX8_catches_45 hl (k := 0) rfl ex_20.symm (by decide) rfl (fun ls hl => ?_)
          refine lv_goto (tgt := 16) hx hb dX8_catches_48 (by decide) ?_
          exact ih x_20 v_2 _ _ _ (hP.sub [0, 1, 2, 3] rfl) (hD.sub [0, 1, 2, 3] (by decide) rfl) hS (lv_sub hl [0, 1, 2, 3] rfl) hbv_2 (show (v_2 : Int32).toInt = zCn gla gsl nga.toInt x_20.toInt.toNat from by (have e7 : ((i_16.toInt.toNat : Nat) : Int) = i_16.toInt := (by omega); rw [show x_20.toInt.toNat = i_16.toInt.toNat + 1 from by omega, zCn_s]; first | (rw [if_pos (by rw [e7]; exact hsr_13_0.1 (by omega))]; omega) | (rw [if_neg (by rw [e7]; exact hsr_13_0.2 (by omega))]; omega))) (show (∀ t : Nat, (t : Int) < x_20.toInt → zCa gla gsl nga.toInt (t : Int) → zCn gla gsl nga.toInt t ≠ i.toInt) from by (intro t h1 h2; rcases (show (t : Int) < i_16.toInt ∨ (t : Int) = i_16.toInt by omega) with h3 | h3; (exact hvi_16_1 t h3 h2); (have h4 : t = i_16.toInt.toNat := (by omega); first | (rw [h4, ← hvi_16_0]; omega) | (exact absurd (by rw [← h3]; exact h2) (hsr_13_0.2 (by omega)))))) (show (v_2 : Int32).toInt ≤ x_20.toInt from by omega) (show x_20.toInt ≤ nte.toInt from by omega) (dw_lo hloi_16 qx_20) (dw_hn hni_16 qx_20)
  · have fc_1 : i.toInt < (-1) := zf_nle c_1 (by decide) rfl
    refine lv_aload_n hx hb dX8_catches_5 rfl (lv_at hl 0 rfl) ?_
    refine lv_bipush (v := (-5)) hx hb dX8_catches_6 (by decide) ?_
    skip
    refine zw_V (As := [.int (-5)]) (rest := []) (wr := [(mla, .inl (cI, 40, .inl gla)), (msl, .inl (cI, 40, .inl gsl))]) ⟨hx, hb, hml, hown, hts⟩ (c_M_no_5 l D cI cJ cZ cP cS po m0 mrf mki mpa mta mla msl mco mhe mso msi msh mce mca mwo mnu mte mwa mke mma mth mtr (npu) (nte) (nat_) (nde) (nto) (nse) (nhu) (nga) (nsd) (nfa) (nba) (npl) (nen) (nnu) (nwr) (nra) (nik) grf hy0 hy1 hy2 hy3 hy4 hy5 hy6 hy7 hy8 hy9 hy10 hy11 hy12 hy13 H.size) (cwV 1 hts gX8_catches_X8_no rfl rfl rfl ⟨rfl, dh_X8_no⟩ ⟨Nat.le_of_ble_eq_true rfl, Nat.le_of_ble_eq_true rfl⟩) hK hN (hZ.kept hS) hP hD hS hA [0, 1] [2, 3] rfl rfl (by decide) (by decide) (by decide) (va_recv (q := (RX8, TX8, 38)) hK hP (ci := 8) (q0 := 0) rfl rfl) rfl hl.1 rfl (Nat.le_of_ble_eq_true rfl) dX8_catches_8 ⟨Nat.le_of_ble_eq_true rfl, Nat.le_of_ble_eq_true rfl⟩ (fun r_21 u_22 H locs hr_21 hP hD hS => ?_)
    obtain ⟨q_23, rfl⟩ : ∃ z, z = u_22 := ⟨_, rfl⟩
    have h9R := zRe (ws' := [(mla, .inl (cI, 40, .inl gla)), (msl, .inl (cI, 40, .inl gsl)), (zMO m0 npu nte nat_ nde nto nse nhu nga nsd nfa mrf mki mpa mta mla msl mco mhe mso msi msh mce mca mwo mnu mte nba npl nen nnu nwr mwa mke mma mth mtr nra nik), (mrf, .inl (cI, 8, .inl q_23))]) hP hD rfl
    clear hP hD
    obtain ⟨hP, hD⟩ := h9R
    obtain rfl := hr_21
    exact W.iret (v := (-5)) hx hb hr (fun t ht hW => ⟨⟨(-5), q_23, rfl, ⟨(show (i.toInt < -1 → ((-5) : Int32).toInt = -5) ∧ (-1 ≤ i.toInt → ∃ q : Int, zCat gla gsl nga.toInt nte.toInt i.toInt q ∧ ((-5) : Int32).toInt = (if q = -1 then -5 else q)) from by (have km : ((-5) : Int32).toInt = -5 := (by decide); exact ⟨fun _ => km, fun h => by (exfalso; omega)⟩)), trivial⟩, zRet ht hP hD [2, 3, 0, 1] (by decide) rfl⟩, hS.F ht⟩) hS.2.2 dX8_catches_11

