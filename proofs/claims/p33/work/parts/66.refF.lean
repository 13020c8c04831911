section
theorem hi_X8_barsOf_8 : ∀ w ∈ u_ws RX8 TX8 38, w ∈ wsX8_barsOf := fun w h => (gl_X8_barsOf_X80 w h).1
set_option maxHeartbeats 4000000 in
set_option maxRecDepth 100000 in
theorem c_M_barsOf (l : Launch) (D : va_G) (cI cJ cZ cP cS : ClassId) (po : zPool) (m0 mrf mki mpa mta mla msl mco mhe mso msi msh mce mca mwo mnu mte mwa mke mma mth mtr : Nat) (npu nte nat_ nde nto nse nhu nga nsd nfa nba npl nen nnu nwr nra nik : Int32) (ghe gsi : Nat → Int32) (gce : Nat → Int64) (s_ : Int32) (hy0 : 0 ≤ npu.toInt) (hy1 : npu.toInt ≤ 8) (hy2 : 4 ≤ nte.toInt) (hy3 : nte.toInt ≤ 40) (hy4 : 0 ≤ nat_.toInt) (hy5 : nat_.toInt ≤ 40) (hy6 : 0 ≤ nde.toInt) (hy7 : nde.toInt ≤ 24) (hy8 : 0 ≤ nhu.toInt) (hy9 : nhu.toInt ≤ 9) (hy10 : 0 ≤ nra.toInt) (hy11 : nra.toInt ≤ 2000) (hy12 : 0 ≤ nik.toInt) (hy13 : nik.toInt ≤ 1) (hp_ghe : zRg ghe (0) 2) (hp_gsi : zRg gsi (0) 160) : Met l yX8_barsOf wsX8_barsOf ({ frames := 2, cells := 0, slots := 0, locals := 42 }) (va_Pc [.ref m0, .int s_] (zR D (zKT cI cJ cZ cP cS) po [(zMO m0 npu nte nat_ nde nto nse nhu nga nsd nfa mrf mki mpa mta mla msl mco mhe mso msi msh mce mca mwo mnu mte nba npl nen nnu nwr mwa mke mma mth mtr nra nik), (mhe, .inl (cI, 8, .inl ghe)), (msi, .inl (cI, 8, .inl gsi)), (mce, .inl (cJ, 1280, .inr (.inl gce)))])) (vp_Si (fun r => -6 ≤ r.toInt ∧ r.toInt ≤ 0 ∧ ((r.toInt = 0 → 0 ≤ s_.toInt ∧ s_.toInt ≤ 7)))) 0 0 (fun _ => False) := by
  refine Met.ofW (cc := cX8_barsOf) (maxL := 4) (ret := (some .int)) (by decide) rfl ?_
  intro p e s m args below meth c s₁ B hml hv
  obtain ⟨rfl, hP, hK, hN, hZ⟩ := hv
  have hx := B.exec
  have hb := B.bytes
  have hr := B.returns
  have hts := atoms_spec (ws := wsX8_barsOf) B.pre
  have hown : s.vm.findClass RX8 = some m.cls := findClass_of_methodNamed B.named
  have hlocks := B.notSynchronized
  have hl := lv_entry ([.ref m0, .int s_]) (n := 4) (Nat.le_of_ble_eq_true rfl)
  rw [lg_entry_eq]
  generalize (lg_sl ([.ref m0, .int s_]) ++ List.replicate (4 - (lg_sl ([.ref m0, .int s_])).length) Slot.unset).toArray = ls at hl ⊢
  replace hl : lv_has ls 4 [(0, .ref m0), (1, .int s_)] := hl
  refine lv_aload_n hx hb dX8_barsOf_0 rfl (lv_at hl 0 rfl) ?_
  refine lv_iload_n hx hb dX8_barsOf_1 rfl (lv_at hl 1 rfl) ?_
  refine zc_V (As := [.int s_]) (rest := []) ⟨hx, hb, hml, hown, hts⟩ (c_M_wanted l D cI cJ cZ cP cS po m0 mrf mki mpa mta mla msl mco mhe mso msi msh mce mca mwo mnu mte mwa mke mma mth mtr (npu) (nte) (nat_) (nde) (nto) (nse) (nhu) (nga) (nsd) (nfa) (nba) (npl) (nen) (nnu) (nwr) (nra) (nik) ghe (s_) hy0 hy1 hy2 hy3 hy4 hy5 hy6 hy7 hy8 hy9 hy10 hy11 hy12 hy13 hp_ghe) (cwV 1 hts gX8_barsOf_X8_wanted rfl rfl rfl ⟨rfl, dh_X8_wanted⟩ ⟨Nat.le_of_ble_eq_true rfl, Nat.le_of_ble_eq_true rfl⟩) hK hN hZ hP (hP.sub [0, 1] rfl) (va_recv (q := (RX8, TX8, 38)) hK hP (ci := 8) (q0 := 0) rfl rfl) rfl hl.1 rfl (Nat.le_of_ble_eq_true rfl) dX8_barsOf_2 ⟨Nat.le_of_ble_eq_true rfl, Nat.le_of_ble_eq_true rfl⟩ (fun r_1 hr_1 => ?_)
  rcases hr_1 with ⟨rfl, g_2⟩ | ⟨rfl, g_3, g_4⟩ | ⟨rfl, g_5, g_6⟩ | ⟨rfl, g_7, g_8⟩ | ⟨rfl, g_9, g_10⟩
  · refine lv_istore_n (lv' := [(2, .int (-1)), (0, .ref m0), (1, .int s_)]) hx hb dX8_barsOf_5 rfl hl (by decide) rfl (fun ls hl => ?_)
    refine lv_iload_n hx hb dX8_barsOf_6 rfl (lv_at hl 0 rfl) ?_
    refine lv_if_eq (tgt := 12) hx hb dX8_barsOf_7 (by decide) (fun c_11 => ?_) (fun c_11 => ?_)
    · exact absurd c_11 (by decide)
    · refine lv_iload_n hx hb dX8_barsOf_10 rfl (lv_at hl 0 rfl) ?_
      exact W.iret (v := (-1)) hx hb hr (fun t ht hW => ⟨(-1), rfl, ⟨by decide, by decide, (show (((-1) : Int32).toInt = 0 → 0 ≤ s_.toInt ∧ s_.toInt ≤ 7) from by first | omega | exact fun h => absurd h (by decide))⟩, ht⟩) (fun q hq => by cases hq) dX8_barsOf_11
  · refine lv_istore_n (lv' := [(2, .int (-1)), (0, .ref m0), (1, .int s_)]) hx hb dX8_barsOf_5 rfl hl (by decide) rfl (fun ls hl => ?_)
    refine lv_iload_n hx hb dX8_barsOf_6 rfl (lv_at hl 0 rfl) ?_
    refine lv_if_eq (tgt := 12) hx hb dX8_barsOf_7 (by decide) (fun c_12 => ?_) (fun c_12 => ?_)
    · exact absurd c_12 (by decide)
    · refine lv_iload_n hx hb dX8_barsOf_10 rfl (lv_at hl 0 rfl) ?_
      exact W.iret (v := (-1)) hx hb hr (fun t ht hW => ⟨(-1), rfl, ⟨by decide, by decide, (show (((-1) : Int32).toInt = 0 → 0 ≤ s_.toInt ∧ s_.toInt ≤ 7) from by first | omega | exact fun h => absurd h (by decide))⟩, ht⟩) (fun q hq => by cases hq) dX8_barsOf_11
  · refine lv_istore_n (lv' := [(2, .int 0), (0, .ref m0), (1, .int s_)]) hx hb dX8_barsOf_5 rfl hl (by decide) rfl (fun ls hl => ?_)
    refine lv_iload_n hx hb dX8_barsOf_6 rfl (lv_at hl 0 rfl) ?_
    refine lv_if_eq (tgt := 12) hx hb dX8_barsOf_7 (by decide) (fun c_13 => ?_) (fun c_13 => ?_)
    · refine lv_aload_n hx hb dX8_barsOf_12 rfl (lv_at hl 1 rfl) ?_
      refine va_get (D := D) (ci := 8) (v := .ref msi) (C := RX8) (T := TX8) (N := 38) hx hb hts hi_X8_barsOf_8 hown hK hP 0 rfl rfl 19 (by decide) (hts (.fieldLink RX8 53 "TheLiningsInItModel" "size" "[I") (List.mem_of_getElem? (i := 1) rfl)) (fun _ h9 => h9) rfl dX8_barsOf_13 ?_
      refine lv_iload_n hx hb dX8_barsOf_16 rfl (lv_at hl 2 rfl) ?_
      refine va_iald hx hb hK hP 2 0 rfl rfl (zf_in (by omega) (by omega)) dX8_barsOf_17 ?_
      refine lv_topi (fun x_14 ex_14 => ?_)
      have bx_14 : 0 ≤ x_14.toInt ∧ x_14.toInt ≤ 160 := by rw [ex_14]; exact hp_gsi _
      refine lv_bipush (v := 25) hx hb dX8_barsOf_18 (by decide) ?_
      refine lv_icmp_ge (tgt := 26) hx hb dX8_barsOf_20 (by decide) (fun c_15 => ?_) (fun c_15 => ?_)
      · have fc_15 : 25 ≤ x_14.toInt := zf_le c_15 (by decide) rfl
        refine lv_iconst (v := 0) hx hb dX8_barsOf_26 (by decide) ?_
        refine lv_istore_n (lv' := [(3, .int 0), (2, .int 0), (0, .ref m0), (1, .int s_)]) hx hb dX8_barsOf_27 rfl hl (by decide) rfl (fun ls hl => ?_)
        obtain ⟨i_28, hi_28⟩ : ∃ i : Int32, i = 0 := ⟨_, rfl⟩
        replace hl : lv_has ls 4 [(3, .int i_28), (0, .ref m0), (1, .int s_)] := by rw [hi_28]; exact lv_sub hl [0, 2, 3] rfl
        have h1i_28 : i_28.toInt = 0 := by rw [hi_28]; decide
        obtain ⟨nfu, hni_28⟩ : ∃ nq9 : Nat, 25 ≤ i_28.toInt + (nq9 : Int) := ⟨((25 : Int) - 0).toNat, by omega⟩
        have hloi_28 : 0 ≤ i_28.toInt := by omega
        clear h1i_28 hi_28
        revert hni_28
        revert hloi_28
        revert hl
        revert ls
        revert i_28
        induction nfu with
        | zero =>
          intro i_28 ls hl hloi_28 hni_28
          have hzi_28 : 25 ≤ i_28.toInt := by omega
          refine lv_iload_n hx hb dX8_barsOf_28 rfl (lv_at hl 0 rfl) ?_
          refine lv_bipush (v := 24) hx hb dX8_barsOf_29 (by decide) ?_
          refine lv_icmp_gt (tgt := 63) hx hb dX8_barsOf_31 (by decide) (fun c_16 => ?_) (fun c_16 => ?_)
          · have fc_16 : 24 < i_28.toInt := zf_lt c_16 (by decide) rfl
            refine lv_iconst (v := 0) hx hb dX8_barsOf_63 (by decide) ?_
            exact W.iret (v := 0) hx hb hr (fun t ht hW => ⟨0, rfl, ⟨by decide, by decide, (show ((0 : Int32).toInt = 0 → 0 ≤ s_.toInt ∧ s_.toInt ≤ 7) from by first | omega | exact fun h => absurd h (by decide))⟩, ht⟩) (fun q hq => by cases hq) dX8_barsOf_64
          · exfalso; have fc_16 : i_28.toInt ≤ 24 := zf_nlt c_16 (by decide) rfl; omega
        | succ nfu ih =>
          intro i_28 ls hl hloi_28 hni_28
          refine lv_iload_n hx hb dX8_barsOf_28 rfl (lv_at hl 0 rfl) ?_
          refine lv_bipush (v := 24) hx hb dX8_barsOf_29 (by decide) ?_
          refine lv_icmp_gt (tgt := 63) hx hb dX8_barsOf_31 (by decide) (fun c_17 => ?_) (fun c_17 => ?_)
          · have fc_17 : 24 < i_28.toInt := zf_lt c_17 (by decide) rfl
            refine lv_iconst (v := 0) hx hb dX8_barsOf_63 (by decide) ?_
            exact W.iret (v := 0) hx hb hr (fun t ht hW => ⟨0, rfl, ⟨by decide, by decide, (show ((0 : Int32).toInt = 0 → 0 ≤ s_.toInt ∧ s_.toInt ≤ 7) from by first | omega | exact fun h => absurd h (by decide))⟩, ht⟩) (fun q hq => by cases hq) dX8_barsOf_64
          · have fc_17 : i_28.toInt ≤ 24 := zf_nlt c_17 (by decide) rfl
            refine lv_aload_n hx hb dX8_barsOf_34 rfl (lv_at hl 1 rfl) ?_
            refine lv_iload_n hx hb dX8_barsOf_35 rfl (lv_at hl 2 rfl) ?_
            refine lv_iload_n hx hb dX8_barsOf_36 rfl (lv_at hl 0 rfl) ?_
            refine zc_V (As := [.int s_, .int i_28]) (rest := []) ⟨hx, hb, hml, hown, hts⟩ (c_M_intAt l D cI cJ cZ cP cS po m0 mrf mki mpa mta mla msl mco mhe mso msi msh mce mca mwo mnu mte mwa mke mma mth mtr (npu) (nte) (nat_) (nde) (nto) (nse) (nhu) (nga) (nsd) (nfa) (nba) (npl) (nen) (nnu) (nwr) (nra) (nik) gce (s_) (i_28) hy0 hy1 hy2 hy3 hy4 hy5 hy6 hy7 hy8 hy9 hy10 hy11 hy12 hy13 (by omega) (by omega) (by omega) (by omega)) (cwV 2 hts gX8_barsOf_X8_intAt rfl rfl rfl ⟨rfl, dh_X8_intAt⟩ ⟨Nat.le_of_ble_eq_true rfl, Nat.le_of_ble_eq_true rfl⟩) hK hN hZ hP (hP.sub [0, 3] rfl) (va_recv (q := (RX8, TX8, 38)) hK hP (ci := 8) (q0 := 0) rfl rfl) rfl hl.1 rfl (Nat.le_of_ble_eq_true rfl) dX8_barsOf_37 ⟨Nat.le_of_ble_eq_true rfl, Nat.le_of_ble_eq_true rfl⟩ (fun r_18 hr_18 => ?_)
            refine lv_if_lt (tgt := 54) hx hb dX8_barsOf_40 (by decide) (fun c_19 => ?_) (fun c_19 => ?_)
            · have fc_19 : r_18.toInt < 0 := zf_lt c_19 rfl (by decide)
              refine lv_bipush (v := (-6)) hx hb dX8_barsOf_54 (by decide) ?_
              exact W.iret (v := (-6)) hx hb hr (fun t ht hW => ⟨(-6), rfl, ⟨by decide, by decide, (show (((-6) : Int32).toInt = 0 → 0 ≤ s_.toInt ∧ s_.toInt ≤ 7) from by first | omega | exact fun h => absurd h (by decide))⟩, ht⟩) (fun q hq => by cases hq) dX8_barsOf_56
            · have fc_19 : 0 ≤ r_18.toInt := zf_nlt c_19 rfl (by decide)
              refine lv_aload_n hx hb dX8_barsOf_43 rfl (lv_at hl 1 rfl) ?_
              refine lv_iload_n hx hb dX8_barsOf_44 rfl (lv_at hl 2 rfl) ?_
              refine lv_iload_n hx hb dX8_barsOf_45 rfl (lv_at hl 0 rfl) ?_
              refine zc_V (As := [.int s_, .int i_28]) (rest := []) ⟨hx, hb, hml, hown, hts⟩ (c_M_intAt l D cI cJ cZ cP cS po m0 mrf mki mpa mta mla msl mco mhe mso msi msh mce mca mwo mnu mte mwa mke mma mth mtr (npu) (nte) (nat_) (nde) (nto) (nse) (nhu) (nga) (nsd) (nfa) (nba) (npl) (nen) (nnu) (nwr) (nra) (nik) gce (s_) (i_28) hy0 hy1 hy2 hy3 hy4 hy5 hy6 hy7 hy8 hy9 hy10 hy11 hy12 hy13 (by omega) (by omega) (by omega) (by omega)) (cwV 2 hts gX8_barsOf_X8_intAt rfl rfl rfl ⟨rfl, dh_X8_intAt⟩ ⟨Nat.le_of_ble_eq_true rfl, Nat.le_of_ble_eq_true rfl⟩) hK hN hZ hP (hP.sub [0, 3] rfl) (va_recv (q := (RX8, TX8, 38)) hK hP (ci := 8) (q0 := 0) rfl rfl) rfl hl.1 rfl (Nat.le_of_ble_eq_true rfl) dX8_barsOf_46 ⟨Nat.le_of_ble_eq_true rfl, Nat.le_of_ble_eq_true rfl⟩ (fun r_20 hr_20 => ?_)
              refine lv_bipush (v := 99) hx hb dX8_barsOf_49 (by decide) ?_
              refine lv_icmp_le (tgt := 57) hx hb dX8_barsOf_51 (by decide) (fun c_21 => ?_) (fun c_21 => ?_)
              · have fc_21 : r_20.toInt ≤ 99 := zf_le c_21 rfl (by decide)
                obtain ⟨x_22, ex_22⟩ : ∃ y : Int32, y = i_28 + 1 := ⟨_, rfl⟩
                have qx_22 : x_22.toInt = i_28.toInt + 1 := by rw [ex_22]; exact zf_add rfl (by decide) (by omega) (by omega)
                refine lv_iinc (v := x_22) (lv' := [(3, .int x_22), (0, .ref m0), (1, .int s_)]) hx hb dX8_barsOf_57 hl (k := 0) rfl ex_22.symm (by decide) rfl (fun ls hl => ?_)
                refine lv_goto (tgt := 28) hx hb dX8_barsOf_60 (by decide) ?_
                exact ih x_22 _ (lv_sub hl [0, 1, 2] rfl) (dw_lo hloi_28 qx_22) (dw_hn hni_28 qx_22)
              · have fc_21 : 99 < r_20.toInt := zf_nle c_21 rfl (by decide)
                refine lv_bipush (v := (-6)) hx hb dX8_barsOf_54 (by decide) ?_
                exact W.iret (v := (-6)) hx hb hr (fun t ht hW => ⟨(-6), rfl, ⟨by decide, by decide, (show (((-6) : Int32).toInt = 0 → 0 ≤ s_.toInt ∧ s_.toInt ≤ 7) from by first | omega | exact fun h => absurd h (by decide))⟩, ht⟩) (fun q hq => by cases hq) dX8_barsOf_56
      · have fc_15 : x_14.toInt < 25 := zf_nle c_15 (by decide) rfl
        refine lv_bipush (v := (-5)) hx hb dX8_barsOf_23 (by decide) ?_
        exact W.iret (v := (-5)) hx hb hr (fun t ht hW => ⟨(-5), rfl, ⟨by decide, by decide, (show (((-5) : Int32).toInt = 0 → 0 ≤ s_.toInt ∧ s_.toInt ≤ 7) from by first | omega | exact fun h => absurd h (by decide))⟩, ht⟩) (fun q hq => by cases hq) dX8_barsOf_25
    · exact absurd c_13 (by decide)
  · refine lv_istore_n (lv' := [(2, .int (-3)), (0, .ref m0), (1, .int s_)]) hx hb dX8_barsOf_5 rfl hl (by decide) rfl (fun ls hl => ?_)
    refine lv_iload_n hx hb dX8_barsOf_6 rfl (lv_at hl 0 rfl) ?_
    refine lv_if_eq (tgt := 12) hx hb dX8_barsOf_7 (by decide) (fun c_23 => ?_) (fun c_23 => ?_)
    · exact absurd c_23 (by decide)
    · refine lv_iload_n hx hb dX8_barsOf_10 rfl (lv_at hl 0 rfl) ?_
      exact W.iret (v := (-3)) hx hb hr (fun t ht hW => ⟨(-3), rfl, ⟨by decide, by decide, (show (((-3) : Int32).toInt = 0 → 0 ≤ s_.toInt ∧ s_.toInt ≤ 7) from by first | omega | exact fun h => absurd h (by decide))⟩, ht⟩) (fun q hq => by cases hq) dX8_barsOf_11
  · refine lv_istore_n (lv' := [(2, .int (-2)), (0, .ref m0), (1, .int s_)]) hx hb dX8_barsOf_5 rfl hl (by decide) rfl (fun ls hl => ?_)
    refine lv_iload_n hx hb dX8_barsOf_6 rfl (lv_at hl 0 rfl) ?_
    refine lv_if_eq (tgt := 12) hx hb dX8_barsOf_7 (by decide) (fun c_24 => ?_) (fun c_24 => ?_)
    · exact absurd c_24 (by decide)
    · refine lv_iload_n hx hb dX8_barsOf_10 rfl (lv_at hl 0 rfl) ?_
      exact W.iret (v := (-2)) hx hb hr (fun t ht hW => ⟨(-2), rfl, ⟨by decide, by decide, (show (((-2) : Int32).toInt = 0 → 0 ≤ s_.toInt ∧ s_.toInt ≤ 7) from by first | omega | exact fun h => absurd h (by decide))⟩, ht⟩) (fun q hq => by cases hq) dX8_barsOf_11
set_option maxHeartbeats 4000000 in
set_option maxRecDepth 100000 in
theorem c_M_freedBy (l : Launch) (D : va_G) (cI cJ cZ cP cS : ClassId) (po : zPool) (m0 mrf mki mpa mta mla msl mco mhe mso msi msh mce mca mwo mnu mte mwa mke mma mth mtr : Nat) (npu nte nat_ nde nto nse nhu nga nsd nfa nba npl nen nnu nwr nra nik : Int32) (gki gpa : Nat → Int32) (gce : Nat → Int64) (s_ p_ : Int32) (hy0 : 0 ≤ npu.toInt) (hy1 : npu.toInt ≤ 8) (hy2 : 4 ≤ nte.toInt) (hy3 : nte.toInt ≤ 40) (hy4 : 0 ≤ nat_.toInt) (hy5 : nat_.toInt ≤ 40) (hy6 : 0 ≤ nde.toInt) (hy7 : nde.toInt ≤ 24) (hy8 : 0 ≤ nhu.toInt) (hy9 : nhu.toInt ≤ 9) (hy10 : 0 ≤ nra.toInt) (hy11 : nra.toInt ≤ 2000) (hy12 : 0 ≤ nik.toInt) (hy13 : nik.toInt ≤ 1) (hy14 : 0 ≤ s_.toInt) (hy15 : s_.toInt ≤ 7) (hy16 : 0 ≤ p_.toInt) (hy17 : p_.toInt ≤ 7) (hp_gki : zRg gki (0) 6) (hp_gpa : zRg gpa (0) 9) : Met l yX8_freedBy wsX8_freedBy ({ frames := 1, cells := 0, slots := 0, locals := 23 }) (va_Pc [.ref m0, .int s_, .int p_] (zR D (zKT cI cJ cZ cP cS) po [(zMO m0 npu nte nat_ nde nto nse nhu nga nsd nfa mrf mki mpa mta mla msl mco mhe mso msi msh mce mca mwo mnu mte nba npl nen nnu nwr mwa mke mma mth mtr nra nik), (mki, .inl (cI, 8, .inl gki)), (mpa, .inl (cI, 8, .inl gpa)), (mce, .inl (cJ, 1280, .inr (.inl gce)))])) (vp_Si (fun r => True)) 0 0 (fun _ => False) := by
  refine Met.ofW (cc := cX8_freedBy) (maxL := 5) (ret := (some .int)) (by decide) rfl ?_
  intro p e s m args below meth c s₁ B hml hv
  obtain ⟨rfl, hP, hK, hN, hZ⟩ := hv
  have hx := B.exec
  have hb := B.bytes
  have hr := B.returns
  have hts := atoms_spec (ws := wsX8_freedBy) B.pre
  have hown : s.vm.findClass RX8 = some m.cls := findClass_of_methodNamed B.named
  have hlocks := B.notSynchronized
  have hl := lv_entry ([.ref m0, .int s_, .int p_]) (n := 5) (Nat.le_of_ble_eq_true rfl)
  rw [lg_entry_eq]
  generalize (lg_sl ([.ref m0, .int s_, .int p_]) ++ List.replicate (5 - (lg_sl ([.ref m0, .int s_, .int p_])).length) Slot.unset).toArray = ls at hl ⊢
  replace hl : lv_has ls 5 [(0, .ref m0), (1, .int s_), (2, .int p_)] := hl
  refine lv_bipush (v := 12) hx hb dX8_freedBy_0 (by decide) ?_
  refine lv_aload_n hx hb dX8_freedBy_2 rfl (lv_at hl 0 rfl) ?_
  refine lv_iload_n hx hb dX8_freedBy_3 rfl (lv_at hl 1 rfl) ?_
  refine lv_iconst (v := 0) hx hb dX8_freedBy_4 (by decide) ?_
  have kc0 : (0 : Int32).toInt = 0 := by decide
  refine zc_V (As := [.int s_, .int 0]) (rest := [.int 12]) ⟨hx, hb, hml, hown, hts⟩ (c_M_intAt l D cI cJ cZ cP cS po m0 mrf mki mpa mta mla msl mco mhe mso msi msh mce mca mwo mnu mte mwa mke mma mth mtr (npu) (nte) (nat_) (nde) (nto) (nse) (nhu) (nga) (nsd) (nfa) (nba) (npl) (nen) (nnu) (nwr) (nra) (nik) gce (s_) (0) hy0 hy1 hy2 hy3 hy4 hy5 hy6 hy7 hy8 hy9 hy10 hy11 hy12 hy13 hy14 hy15 (by omega) (by omega)) (cwV 2 hts gX8_freedBy_X8_intAt rfl rfl rfl ⟨rfl, dh_X8_intAt⟩ ⟨Nat.le_of_ble_eq_true rfl, Nat.le_of_ble_eq_true rfl⟩) hK hN hZ hP (hP.sub [0, 3] rfl) (va_recv (q := (RX8, TX8, 38)) hK hP (ci := 8) (q0 := 0) rfl rfl) rfl hl.1 rfl (Nat.le_of_ble_eq_true rfl) dX8_freedBy_5 ⟨Nat.le_of_ble_eq_true rfl, Nat.le_of_ble_eq_true rfl⟩ (fun r_1 hr_1 => ?_)
  refine lv_imul hx hb dX8_freedBy_8 ?_
  refine lv_topi (fun x_2 ex_2 => ?_)
  refine lv_istore_n (lv' := [(3, .int x_2), (0, .ref m0), (1, .int s_), (2, .int p_)]) hx hb dX8_freedBy_9 rfl hl (by decide) rfl (fun ls hl => ?_)
  refine lv_iconst (v := 1) hx hb dX8_freedBy_10 (by decide) ?_
  refine lv_istore (lv' := [(4, .int 1), (3, .int x_2), (0, .ref m0), (1, .int s_), (2, .int p_)]) hx hb dX8_freedBy_11 hl (by decide) rfl (fun ls hl => ?_)
  obtain ⟨i_13, hi_13⟩ : ∃ i : Int32, i = 1 := ⟨_, rfl⟩
  replace hl : lv_has ls 5 [(4, .int i_13), (3, .int x_2), (0, .ref m0), (1, .int s_), (2, .int p_)] := by rw [hi_13]; exact lv_sub hl [0, 1, 2, 3, 4] rfl
  have h1i_13 : i_13.toInt = 1 := by rw [hi_13]; decide
  obtain ⟨nfu, hni_13⟩ : ∃ nq9 : Nat, 25 ≤ i_13.toInt + (nq9 : Int) := ⟨((25 : Int) - 1).toNat, by omega⟩
  have hloi_13 : 1 ≤ i_13.toInt := by omega
  obtain ⟨v_3, hv_3⟩ : ∃ g : Int32, g = x_2 := ⟨_, rfl⟩
  replace hl : lv_has ls 5 [(4, .int i_13), (3, .int v_3), (0, .ref m0), (1, .int s_), (2, .int p_)] := by rw [hv_3]; exact hl
  clear h1i_13 hi_13 hv_3
  revert hni_13
  revert hloi_13
  revert hl
  revert ls
  revert v_3
  revert i_13
  induction nfu with
  | zero =>
    intro i_13 v_3 ls hl hloi_13 hni_13
    have hzi_13 : 25 ≤ i_13.toInt := by omega
    refine lv_iload hx hb dX8_freedBy_13 (lv_at hl 0 rfl) ?_
    refine lv_bipush (v := 24) hx hb dX8_freedBy_15 (by decide) ?_
    refine lv_icmp_gt (tgt := 44) hx hb dX8_freedBy_17 (by decide) (fun c_4 => ?_) (fun c_4 => ?_)
    · have fc_4 : 24 < i_13.toInt := zf_lt c_4 (by decide) rfl
      refine lv_iload_n hx hb dX8_freedBy_44 rfl (lv_at hl 1 rfl) ?_
      exact W.iret (v := v_3) hx hb hr (fun t ht hW => ⟨v_3, rfl, trivial, ht⟩) (fun q hq => by cases hq) dX8_freedBy_45
    · exfalso; have fc_4 : i_13.toInt ≤ 24 := zf_nlt c_4 (by decide) rfl; omega
  | succ nfu ih =>
    intro i_13 v_3 ls hl hloi_13 hni_13
    refine lv_iload hx hb dX8_freedBy_13 (lv_at hl 0 rfl) ?_
    refine lv_bipush (v := 24) hx hb dX8_freedBy_15 (by decide) ?_
    refine lv_icmp_gt (tgt := 44) hx hb dX8_freedBy_17 (by decide) (fun c_5 => ?_) (fun c_5 => ?_)
    · have fc_5 : 24 < i_13.toInt := zf_lt c_5 (by decide) rfl
      refine lv_iload_n hx hb dX8_freedBy_44 rfl (lv_at hl 1 rfl) ?_
      exact W.iret (v := v_3) hx hb hr (fun t ht hW => ⟨v_3, rfl, trivial, ht⟩) (fun q hq => by cases hq) dX8_freedBy_45
    · have fc_5 : i_13.toInt ≤ 24 := zf_nlt c_5 (by decide) rfl
      refine lv_iload_n hx hb dX8_freedBy_20 rfl (lv_at hl 1 rfl) ?_
      refine lv_aload_n hx hb dX8_freedBy_21 rfl (lv_at hl 2 rfl) ?_
      refine lv_iload_n hx hb dX8_freedBy_22 rfl (lv_at hl 4 rfl) ?_
      refine lv_iload hx hb dX8_freedBy_23 (lv_at hl 0 rfl) ?_
      refine zc_V (As := [.int p_, .int i_13]) (rest := [.int v_3]) ⟨hx, hb, hml, hown, hts⟩ (c_M_ways l D cI cJ cZ cP cS po m0 mrf mki mpa mta mla msl mco mhe mso msi msh mce mca mwo mnu mte mwa mke mma mth mtr (npu) (nte) (nat_) (nde) (nto) (nse) (nhu) (nga) (nsd) (nfa) (nba) (npl) (nen) (nnu) (nwr) (nra) (nik) gki gpa (p_) (i_13) hy0 hy1 hy2 hy3 hy4 hy5 hy6 hy7 hy8 hy9 hy10 hy11 hy12 hy13 hy16 hy17 hp_gki hp_gpa) (cwV 2 hts gX8_freedBy_X8_ways rfl rfl rfl ⟨rfl, dh_X8_ways⟩ ⟨Nat.le_of_ble_eq_true rfl, Nat.le_of_ble_eq_true rfl⟩) hK hN hZ hP (hP.sub [0, 1, 2] rfl) (va_recv (q := (RX8, TX8, 38)) hK hP (ci := 8) (q0 := 0) rfl rfl) rfl hl.1 rfl (Nat.le_of_ble_eq_true rfl) dX8_freedBy_25 ⟨Nat.le_of_ble_eq_true rfl, Nat.le_of_ble_eq_true rfl⟩ (fun r_6 hr_6 => ?_)
      obtain ⟨g_7, g_8⟩ := hr_6
      refine lv_aload_n hx hb dX8_freedBy_28 rfl (lv_at hl 2 rfl) ?_
      refine lv_iload_n hx hb dX8_freedBy_29 rfl (lv_at hl 3 rfl) ?_
      refine lv_iload hx hb dX8_freedBy_30 (lv_at hl 0 rfl) ?_
      refine zc_V (As := [.int s_, .int i_13]) (rest := [.int r_6, .int v_3]) ⟨hx, hb, hml, hown, hts⟩ (c_M_intAt l D cI cJ cZ cP cS po m0 mrf mki mpa mta mla msl mco mhe mso msi msh mce mca mwo mnu mte mwa mke mma mth mtr (npu) (nte) (nat_) (nde) (nto) (nse) (nhu) (nga) (nsd) (nfa) (nba) (npl) (nen) (nnu) (nwr) (nra) (nik) gce (s_) (i_13) hy0 hy1 hy2 hy3 hy4 hy5 hy6 hy7 hy8 hy9 hy10 hy11 hy12 hy13 hy14 hy15 (by omega) (by omega)) (cwV 2 hts gX8_freedBy_X8_intAt rfl rfl rfl ⟨rfl, dh_X8_intAt⟩ ⟨Nat.le_of_ble_eq_true rfl, Nat.le_of_ble_eq_true rfl⟩) hK hN hZ hP (hP.sub [0, 3] rfl) (va_recv (q := (RX8, TX8, 38)) hK hP (ci := 8) (q0 := 0) rfl rfl) rfl hl.1 rfl (Nat.le_of_ble_eq_true rfl) dX8_freedBy_32 ⟨Nat.le_of_ble_eq_true rfl, Nat.le_of_ble_eq_true rfl⟩ (fun r_9 hr_9 => ?_)
      refine lv_imul hx hb dX8_freedBy_35 ?_
      refine lv_topi (fun x_10 ex_10 => ?_)
      refine lv_iadd hx hb dX8_freedBy_36 ?_
      refine lv_topi (fun x_11 ex_11 => ?_)
      refine lv_istore_n (lv' := [(3, .int x_11), (4, .int i_13), (0, .ref m0), (1, .int s_), (2, .int p_)]) hx hb dX8_freedBy_37 rfl hl (by decide) rfl (fun ls hl => ?_)
      obtain ⟨x_12, ex_12⟩ : ∃ y : Int32, y = i_13 + 1 := ⟨_, rfl⟩
      have qx_12 : x_12.toInt = i_13.toInt + 1 := by rw [ex_12]; exact zf_add rfl (by decide) (by omega) (by omega)
      refine lv_iinc (v := x_12) (lv' := [(4, .int x_12), (3, .int x_11), (0, .ref m0), (1, .int s_), (2, .int p_)]) hx hb dX8_freedBy_38 hl (k := 1) rfl ex_12.symm (by decide) rfl (fun ls hl => ?_)
      refine lv_goto (tgt := 13) hx hb dX8_freedBy_41 (by decide) ?_
      exact ih x_12 x_11 _ (lv_sub hl [0, 1, 2, 3, 4] rfl) (dw_lo hloi_13 qx_12) (dw_hn hni_13 qx_12)
set_option maxHeartbeats 4000000 in
set_option maxRecDepth 100000 in
theorem c_M_freed (l : Launch) (D : va_G) (cI cJ cZ cP cS : ClassId) (po : zPool) (m0 mrf mki mpa mta mla msl mco mhe mso msi msh mce mca mwo mnu mte mwa mke mma mth mtr : Nat) (npu nte nat_ nde nto nse nhu nga nsd nfa nba npl nen nnu nwr nra nik : Int32) (grf ghe gsi gki gpa : Nat → Int32) (gce : Nat → Int64) (s_ p_ : Int32) (hy0 : 0 ≤ npu.toInt) (hy1 : npu.toInt ≤ 8) (hy2 : 4 ≤ nte.toInt) (hy3 : nte.toInt ≤ 40) (hy4 : 0 ≤ nat_.toInt) (hy5 : nat_.toInt ≤ 40) (hy6 : 0 ≤ nde.toInt) (hy7 : nde.toInt ≤ 24) (hy8 : 0 ≤ nhu.toInt) (hy9 : nhu.toInt ≤ 9) (hy10 : 0 ≤ nra.toInt) (hy11 : nra.toInt ≤ 2000) (hy12 : 0 ≤ nik.toInt) (hy13 : nik.toInt ≤ 1) (hp_ghe : zRg ghe (0) 2) (hp_gsi : zRg gsi (0) 160) (hp_gki : zRg gki (0) 6) (hp_gpa : zRg gpa (0) 9) (hpz : Nat) : Met l yX8_freed wsX8_freed ({ frames := 3, cells := 0, slots := 0, locals := 65 }) (va_Pc [.ref m0, .int s_, .int p_] (zW D (zKT cI cJ cZ cP cS) po [(zMO m0 npu nte nat_ nde nto nse nhu nga nsd nfa mrf mki mpa mta mla msl mco mhe mso msi msh mce mca mwo mnu mte nba npl nen nnu nwr mwa mke mma mth mtr nra nik), (mrf, .inl (cI, 8, .inl grf)), (mhe, .inl (cI, 8, .inl ghe)), (msi, .inl (cI, 8, .inl gsi)), (mce, .inl (cJ, 1280, .inr (.inl gce))), (mki, .inl (cI, 8, .inl gki)), (mpa, .inl (cI, 8, .inl gpa))] hpz)) (va_Qi (fun (r : Int32) (grf2 : (Nat → Int32)) => True) (zB D [(zMO m0 npu nte nat_ nde nto nse nhu nga nsd nfa mrf mki mpa mta mla msl mco mhe mso msi msh mce mca mwo mnu mte nba npl nen nnu nwr mwa mke mma mth mtr nra nik), (mrf, .inl (cI, 8, .inl grf)), (mhe, .inl (cI, 8, .inl ghe)), (msi, .inl (cI, 8, .inl gsi)), (mce, .inl (cJ, 1280, .inr (.inl gce))), (mki, .inl (cI, 8, .inl gki)), (mpa, .inl (cI, 8, .inl gpa))] hpz (fun (grf2 : Nat → Int32) => [(zMO m0 npu nte nat_ nde nto nse nhu nga nsd nfa mrf mki mpa mta mla msl mco mhe mso msi msh mce mca mwo mnu mte nba npl nen nnu nwr mwa mke mma mth mtr nra nik), (mrf, .inl (cI, 8, .inl grf2)), (mhe, .inl (cI, 8, .inl ghe)), (msi, .inl (cI, 8, .inl gsi)), (mce, .inl (cJ, 1280, .inr (.inl gce))), (mki, .inl (cI, 8, .inl gki)), (mpa, .inl (cI, 8, .inl gpa))])) (va_A [(zMO m0 npu nte nat_ nde nto nse nhu nga nsd nfa mrf mki mpa mta mla msl mco mhe mso msi msh mce mca mwo mnu mte nba npl nen nnu nwr mwa mke mma mth mtr nra nik), (mrf, .inl (cI, 8, .inl grf)), (mhe, .inl (cI, 8, .inl ghe)), (msi, .inl (cI, 8, .inl gsi)), (mce, .inl (cJ, 1280, .inr (.inl gce))), (mki, .inl (cI, 8, .inl gki)), (mpa, .inl (cI, 8, .inl gpa))] hpz)) 0 0 (va_A [(zMO m0 npu nte nat_ nde nto nse nhu nga nsd nfa mrf mki mpa mta mla msl mco mhe mso msi msh mce mca mwo mnu mte nba npl nen nnu nwr mwa mke mma mth mtr nra nik), (mrf, .inl (cI, 8, .inl grf)), (mhe, .inl (cI, 8, .inl ghe)), (msi, .inl (cI, 8, .inl gsi)), (mce, .inl (cJ, 1280, .inr (.inl gce))), (mki, .inl (cI, 8, .inl gki)), (mpa, .inl (cI, 8, .inl gpa))] hpz) := by
  refine Met.ofW (cc := cX8_freed) (maxL := 4) (ret := (some .int)) (by decide) rfl ?_
  intro p e s m args below meth c s₁ B hml hv
  obtain ⟨rfl, hsz, hP, hK, hD0, hN, hZ⟩ := hv
  have hx := B.exec
  have hb := B.bytes
  have hr := B.returns
  have hts := atoms_spec (ws := wsX8_freed) B.pre
  have hown : s.vm.findClass RX8 = some m.cls := findClass_of_methodNamed B.named
  have hlocks := B.notSynchronized
  subst hsz
  have hD := hD0.self (sz := s.heap.size)
  have hA := zA_of hD
  have hl := lv_entry ([.ref m0, .int s_, .int p_]) (n := 4) (Nat.le_of_ble_eq_true rfl)
  rw [lg_entry_eq]
  generalize (lg_sl ([.ref m0, .int s_, .int p_]) ++ List.replicate (4 - (lg_sl ([.ref m0, .int s_, .int p_])).length) Slot.unset).toArray = ls at hl ⊢
  replace hl : lv_has ls 4 [(0, .ref m0), (1, .int s_), (2, .int p_)] := hl
  refine zw_begin hP hD (fun H locs hP1 hS => ?_)
  clear hP
  have hP := hP1
  clear hP1
  refine lv_aload_n hx hb dX8_freed_0 rfl (lv_at hl 0 rfl) ?_
  refine lv_iload_n hx hb dX8_freed_1 rfl (lv_at hl 1 rfl) ?_
  refine zc_V (As := [.int s_]) (rest := []) ⟨hx, hb, hml, hown, hts⟩ (c_M_isShelf l D cI cJ cZ cP cS po m0 mrf mki mpa mta mla msl mco mhe mso msi msh mce mca mwo mnu mte mwa mke mma mth mtr (npu) (nte) (nat_) (nde) (nto) (nse) (nhu) (nga) (nsd) (nfa) (nba) (npl) (nen) (nnu) (nwr) (nra) (nik) (s_) hy0 hy1 hy2 hy3 hy4 hy5 hy6 hy7 hy8 hy9 hy10 hy11 hy12 hy13) (cwV 1 hts gX8_freed_X8_isShelf rfl rfl rfl ⟨rfl, dh_X8_isShelf⟩ ⟨Nat.le_of_ble_eq_true rfl, Nat.le_of_ble_eq_true rfl⟩) hK hN (hZ.kept hS) hP (hP.sub [0] rfl) (va_recv (q := (RX8, TX8, 38)) hK hP (ci := 8) (q0 := 0) rfl rfl) rfl hl.1 rfl (Nat.le_of_ble_eq_true rfl) dX8_freed_2 ⟨Nat.le_of_ble_eq_true rfl, Nat.le_of_ble_eq_true rfl⟩ (fun r_1 hr_1 => ?_)
  rcases hr_1 with ⟨rfl, g_2⟩ | ⟨rfl, g_3, g_4⟩ | ⟨rfl, g_5, g_6⟩
  · refine lv_if_eq (tgt := 20) hx hb dX8_freed_5 (by decide) (fun c_7 => ?_) (fun c_7 => ?_)
    · refine lv_aload_n hx hb dX8_freed_20 rfl (lv_at hl 0 rfl) ?_
      refine lv_iload_n hx hb dX8_freed_21 rfl (lv_at hl 1 rfl) ?_
      refine zc_V (As := [.int s_]) (rest := []) ⟨hx, hb, hml, hown, hts⟩ (c_M_barsOf l D cI cJ cZ cP cS po m0 mrf mki mpa mta mla msl mco mhe mso msi msh mce mca mwo mnu mte mwa mke mma mth mtr (npu) (nte) (nat_) (nde) (nto) (nse) (nhu) (nga) (nsd) (nfa) (nba) (npl) (nen) (nnu) (nwr) (nra) (nik) ghe gsi gce (s_) hy0 hy1 hy2 hy3 hy4 hy5 hy6 hy7 hy8 hy9 hy10 hy11 hy12 hy13 hp_ghe hp_gsi) (cwV 1 hts gX8_freed_X8_barsOf rfl rfl rfl ⟨rfl, dh_X8_barsOf⟩ ⟨Nat.le_of_ble_eq_true rfl, Nat.le_of_ble_eq_true rfl⟩) hK hN (hZ.kept hS) hP (hP.sub [0, 2, 3, 4] rfl) (va_recv (q := (RX8, TX8, 38)) hK hP (ci := 8) (q0 := 0) rfl rfl) rfl hl.1 rfl (Nat.le_of_ble_eq_true rfl) dX8_freed_22 ⟨Nat.le_of_ble_eq_true rfl, Nat.le_of_ble_eq_true rfl⟩ (fun r_8 hr_8 => ?_)
      obtain ⟨g_9, g_10, hsr_8_0⟩ := hr_8
      refine lv_istore_n (lv' := [(3, .int r_8), (0, .ref m0), (1, .int s_), (2, .int p_)]) hx hb dX8_freed_25 rfl hl (by decide) rfl (fun ls hl => ?_)
      refine lv_iload_n hx hb dX8_freed_26 rfl (lv_at hl 0 rfl) ?_
      refine lv_if_eq (tgt := 38) hx hb dX8_freed_27 (by decide) (fun c_11 => ?_) (fun c_11 => ?_)
      · have fc_11 : r_8.toInt = 0 := zf_eq c_11 rfl (by decide)
        refine lv_aload_n hx hb dX8_freed_38 rfl (lv_at hl 1 rfl) ?_
        refine lv_iload_n hx hb dX8_freed_39 rfl (lv_at hl 2 rfl) ?_
        refine lv_iload_n hx hb dX8_freed_40 rfl (lv_at hl 3 rfl) ?_
        refine zc_V (As := [.int s_, .int p_]) (rest := []) ⟨hx, hb, hml, hown, hts⟩ (c_M_freedBy l D cI cJ cZ cP cS po m0 mrf mki mpa mta mla msl mco mhe mso msi msh mce mca mwo mnu mte mwa mke mma mth mtr (npu) (nte) (nat_) (nde) (nto) (nse) (nhu) (nga) (nsd) (nfa) (nba) (npl) (nen) (nnu) (nwr) (nra) (nik) gki gpa gce (s_) (p_) hy0 hy1 hy2 hy3 hy4 hy5 hy6 hy7 hy8 hy9 hy10 hy11 hy12 hy13 (by omega) (by omega) (by omega) (by omega) hp_gki hp_gpa) (cwV 2 hts gX8_freed_X8_freedBy rfl rfl rfl ⟨rfl, dh_X8_freedBy⟩ ⟨Nat.le_of_ble_eq_true rfl, Nat.le_of_ble_eq_true rfl⟩) hK hN (hZ.kept hS) hP (hP.sub [0, 5, 6, 4] rfl) (va_recv (q := (RX8, TX8, 38)) hK hP (ci := 8) (q0 := 0) rfl rfl) rfl hl.1 rfl (Nat.le_of_ble_eq_true rfl) dX8_freed_41 ⟨Nat.le_of_ble_eq_true rfl, Nat.le_of_ble_eq_true rfl⟩ (fun r_12 hr_12 => ?_)
        exact W.iret (v := r_12) hx hb hr (fun t ht hW => ⟨⟨r_12, grf, rfl, trivial, zRet ht hP hD [0, 1, 2, 3, 4, 5, 6] (by decide) rfl⟩, hS.F ht⟩) hS.2.2 dX8_freed_44
      · have fc_11 : r_8.toInt ≠ 0 := zf_ne c_11 rfl (by decide)
        refine lv_aload_n hx hb dX8_freed_30 rfl (lv_at hl 1 rfl) ?_
        refine lv_iload_n hx hb dX8_freed_31 rfl (lv_at hl 0 rfl) ?_
        skip
        refine zw_V (As := [.int r_8]) (rest := []) (wr := [(mhe, .inl (cI, 8, .inl ghe)), (msi, .inl (cI, 8, .inl gsi)), (mce, .inl (cJ, 1280, .inr (.inl gce))), (mki, .inl (cI, 8, .inl gki)), (mpa, .inl (cI, 8, .inl gpa))]) ⟨hx, hb, hml, hown, hts⟩ (c_M_no l D cI cJ cZ cP cS po m0 mrf mki mpa mta mla msl mco mhe mso msi msh mce mca mwo mnu mte mwa mke mma mth mtr (npu) (nte) (nat_) (nde) (nto) (nse) (nhu) (nga) (nsd) (nfa) (nba) (npl) (nen) (nnu) (nwr) (nra) (nik) grf (r_8) hy0 hy1 hy2 hy3 hy4 hy5 hy6 hy7 hy8 hy9 hy10 hy11 hy12 hy13 (by omega) (by omega) H.size) (cwV 1 hts gX8_freed_X8_no rfl rfl rfl ⟨rfl, dh_X8_no⟩ ⟨Nat.le_of_ble_eq_true rfl, Nat.le_of_ble_eq_true rfl⟩) hK hN (hZ.kept hS) hP hD hS hA [0, 1] [2, 3, 4, 5, 6] rfl rfl (by decide) (by decide) (by decide) (va_recv (q := (RX8, TX8, 38)) hK hP (ci := 8) (q0 := 0) rfl rfl) rfl hl.1 rfl (Nat.le_of_ble_eq_true rfl) dX8_freed_32 ⟨Nat.le_of_ble_eq_true rfl, Nat.le_of_ble_eq_true rfl⟩ (fun r_13 u_14 H locs hr_13 hP hD hS => ?_)
        obtain ⟨q_15, rfl⟩ : ∃ z, z = u_14 := ⟨_, rfl⟩
        have h9R := zRe (ws' := [(mhe, .inl (cI, 8, .inl ghe)), (msi, .inl (cI, 8, .inl gsi)), (mce, .inl (cJ, 1280, .inr (.inl gce))), (mki, .inl (cI, 8, .inl gki)), (mpa, .inl (cI, 8, .inl gpa)), (zMO m0 npu nte nat_ nde nto nse nhu nga nsd nfa mrf mki mpa mta mla msl mco mhe mso msi msh mce mca mwo mnu mte nba npl nen nnu nwr mwa mke mma mth mtr nra nik), (mrf, .inl (cI, 8, .inl q_15))]) hP hD rfl
        clear hP hD
        obtain ⟨hP, hD⟩ := h9R
        have w_16 := hr_13
        obtain rfl : r_8 = r_13 := w_16.symm
        refine lv_goto (tgt := 44) hx hb dX8_freed_35 (by decide) ?_
        exact W.iret (v := r_8) hx hb hr (fun t ht hW => ⟨⟨r_8, q_15, rfl, trivial, zRet ht hP hD [5, 6, 0, 1, 2, 3, 4] (by decide) rfl⟩, hS.F ht⟩) hS.2.2 dX8_freed_44
    · exact absurd c_7 (by decide)
  · refine lv_if_eq (tgt := 20) hx hb dX8_freed_5 (by decide) (fun c_17 => ?_) (fun c_17 => ?_)
    · refine lv_aload_n hx hb dX8_freed_20 rfl (lv_at hl 0 rfl) ?_
      refine lv_iload_n hx hb dX8_freed_21 rfl (lv_at hl 1 rfl) ?_
      refine zc_V (As := [.int s_]) (rest := []) ⟨hx, hb, hml, hown, hts⟩ (c_M_barsOf l D cI cJ cZ cP cS po m0 mrf mki mpa mta mla msl mco mhe mso msi msh mce mca mwo mnu mte mwa mke mma mth mtr (npu) (nte) (nat_) (nde) (nto) (nse) (nhu) (nga) (nsd) (nfa) (nba) (npl) (nen) (nnu) (nwr) (nra) (nik) ghe gsi gce (s_) hy0 hy1 hy2 hy3 hy4 hy5 hy6 hy7 hy8 hy9 hy10 hy11 hy12 hy13 hp_ghe hp_gsi) (cwV 1 hts gX8_freed_X8_barsOf rfl rfl rfl ⟨rfl, dh_X8_barsOf⟩ ⟨Nat.le_of_ble_eq_true rfl, Nat.le_of_ble_eq_true rfl⟩) hK hN (hZ.kept hS) hP (hP.sub [0, 2, 3, 4] rfl) (va_recv (q := (RX8, TX8, 38)) hK hP (ci := 8) (q0 := 0) rfl rfl) rfl hl.1 rfl (Nat.le_of_ble_eq_true rfl) dX8_freed_22 ⟨Nat.le_of_ble_eq_true rfl, Nat.le_of_ble_eq_true rfl⟩ (fun r_18 hr_18 => ?_)
      obtain ⟨g_19, g_20, hsr_18_0⟩ := hr_18
      refine lv_istore_n (lv' := [(3, .int r_18), (0, .ref m0), (1, .int s_), (2, .int p_)]) hx hb dX8_freed_25 rfl hl (by decide) rfl (fun ls hl => ?_)
      refine lv_iload_n hx hb dX8_freed_26 rfl (lv_at hl 0 rfl) ?_
      refine lv_if_eq (tgt := 38) hx hb dX8_freed_27 (by decide) (fun c_21 => ?_) (fun c_21 => ?_)
      · have fc_21 : r_18.toInt = 0 := zf_eq c_21 rfl (by decide)
        refine lv_aload_n hx hb dX8_freed_38 rfl (lv_at hl 1 rfl) ?_
        refine lv_iload_n hx hb dX8_freed_39 rfl (lv_at hl 2 rfl) ?_
        refine lv_iload_n hx hb dX8_freed_40 rfl (lv_at hl 3 rfl) ?_
        refine zc_V (As := [.int s_, .int p_]) (rest := []) ⟨hx, hb, hml, hown, hts⟩ (c_M_freedBy l D cI cJ cZ cP cS po m0 mrf mki mpa mta mla msl mco mhe mso msi msh mce mca mwo mnu mte mwa mke mma mth mtr (npu) (nte) (nat_) (nde) (nto) (nse) (nhu) (nga) (nsd) (nfa) (nba) (npl) (nen) (nnu) (nwr) (nra) (nik) gki gpa gce (s_) (p_) hy0 hy1 hy2 hy3 hy4 hy5 hy6 hy7 hy8 hy9 hy10 hy11 hy12 hy13 (by omega) (by omega) (by omega) (by omega) hp_gki hp_gpa) (cwV 2 hts gX8_freed_X8_freedBy rfl rfl rfl ⟨rfl, dh_X8_freedBy⟩ ⟨Nat.le_of_ble_eq_true rfl, Nat.le_of_ble_eq_true rfl⟩) hK hN (hZ.kept hS) hP (hP.sub [0, 5, 6, 4] rfl) (va_recv (q := (RX8, TX8, 38)) hK hP (ci := 8) (q0 := 0) rfl rfl) rfl hl.1 rfl (Nat.le_of_ble_eq_true rfl) dX8_freed_41 ⟨Nat.le_of_ble_eq_true rfl, Nat.le_of_ble_eq_true rfl⟩ (fun r_22 hr_22 => ?_)
        exact W.iret (v := r_22) hx hb hr (fun t ht hW => ⟨⟨r_22, grf, rfl, trivial, zRet ht hP hD [0, 1, 2, 3, 4, 5, 6] (by decide) rfl⟩, hS.F ht⟩) hS.2.2 dX8_freed_44
      · have fc_21 : r_18.toInt ≠ 0 := zf_ne c_21 rfl (by decide)
        refine lv_aload_n hx hb dX8_freed_30 rfl (lv_at hl 1 rfl) ?_
        refine lv_iload_n hx hb dX8_freed_31 rfl (lv_at hl 0 rfl) ?_
        skip
        refine zw_V (As := [.int r_18]) (rest := []) (wr := [(mhe, .inl (cI, 8, .inl ghe)), (msi, .inl (cI, 8, .inl gsi)), (mce, .inl (cJ, 1280, .inr (.inl gce))), (mki, .inl (cI, 8, .inl gki)), (mpa, .inl (cI, 8, .inl gpa))]) ⟨hx, hb, hml, hown, hts⟩ (c_M_no l D cI cJ cZ cP cS po m0 mrf mki mpa mta mla msl mco mhe mso msi msh mce mca mwo mnu mte mwa mke mma mth mtr (npu) (nte) (nat_) (nde) (nto) (nse) (nhu) (nga) (nsd) (nfa) (nba) (npl) (nen) (nnu) (nwr) (nra) (nik) grf (r_18) hy0 hy1 hy2 hy3 hy4 hy5 hy6 hy7 hy8 hy9 hy10 hy11 hy12 hy13 (by omega) (by omega) H.size) (cwV 1 hts gX8_freed_X8_no rfl rfl rfl ⟨rfl, dh_X8_no⟩ ⟨Nat.le_of_ble_eq_true rfl, Nat.le_of_ble_eq_true rfl⟩) hK hN (hZ.kept hS) hP hD hS hA [0, 1] [2, 3, 4, 5, 6] rfl rfl (by decide) (by decide) (by decide) (va_recv (q := (RX8, TX8, 38)) hK hP (ci := 8) (q0 := 0) rfl rfl) rfl hl.1 rfl (Nat.le_of_ble_eq_true rfl) dX8_freed_32 ⟨Nat.le_of_ble_eq_true rfl, Nat.le_of_ble_eq_true rfl⟩ (fun r_23 u_24 H locs hr_23 hP hD hS => ?_)
        obtain ⟨q_25, rfl⟩ : ∃ z, z = u_24 := ⟨_, rfl⟩
        have h9R := zRe (ws' := [(mhe, .inl (cI, 8, .inl ghe)), (msi, .inl (cI, 8, .inl gsi)), (mce, .inl (cJ, 1280, .inr (.inl gce))), (mki, .inl (cI, 8, .inl gki)), (mpa, .inl (cI, 8, .inl gpa)), (zMO m0 npu nte nat_ nde nto nse nhu nga nsd nfa mrf mki mpa mta mla msl mco mhe mso msi msh mce mca mwo mnu mte nba npl nen nnu nwr mwa mke mma mth mtr nra nik), (mrf, .inl (cI, 8, .inl q_25))]) hP hD rfl
        clear hP hD
        obtain ⟨hP, hD⟩ := h9R
        have w_26 := hr_23
        obtain rfl : r_18 = r_23 := w_26.symm
        refine lv_goto (tgt := 44) hx hb dX8_freed_35 (by decide) ?_
        exact W.iret (v := r_18) hx hb hr (fun t ht hW => ⟨⟨r_18, q_25, rfl, trivial, zRet ht hP hD [5, 6, 0, 1, 2, 3, 4] (by decide) rfl⟩, hS.F ht⟩) hS.2.2 dX8_freed_44
    · exact absurd c_17 (by decide)
  · refine lv_if_eq (tgt := 20) hx hb dX8_freed_5 (by decide) (fun c_27 => ?_) (fun c_27 => ?_)
    · exact absurd c_27 (by decide)
    · refine lv_aload_n hx hb dX8_freed_8 rfl (lv_at hl 0 rfl) ?_
      refine lv_iload_n hx hb dX8_freed_9 rfl (lv_at hl 2 rfl) ?_
      refine zc_V (As := [.int p_]) (rest := []) ⟨hx, hb, hml, hown, hts⟩ (c_M_isPull l D cI cJ cZ cP cS po m0 mrf mki mpa mta mla msl mco mhe mso msi msh mce mca mwo mnu mte mwa mke mma mth mtr (npu) (nte) (nat_) (nde) (nto) (nse) (nhu) (nga) (nsd) (nfa) (nba) (npl) (nen) (nnu) (nwr) (nra) (nik) (p_) hy0 hy1 hy2 hy3 hy4 hy5 hy6 hy7 hy8 hy9 hy10 hy11 hy12 hy13) (cwV 1 hts gX8_freed_X8_isPull rfl rfl rfl ⟨rfl, dh_X8_isPull⟩ ⟨Nat.le_of_ble_eq_true rfl, Nat.le_of_ble_eq_true rfl⟩) hK hN (hZ.kept hS) hP (hP.sub [0] rfl) (va_recv (q := (RX8, TX8, 38)) hK hP (ci := 8) (q0 := 0) rfl rfl) rfl hl.1 rfl (Nat.le_of_ble_eq_true rfl) dX8_freed_10 ⟨Nat.le_of_ble_eq_true rfl, Nat.le_of_ble_eq_true rfl⟩ (fun r_28 hr_28 => ?_)
      rcases hr_28 with ⟨rfl, g_29⟩ | ⟨rfl, g_30, g_31⟩ | ⟨rfl, g_32, g_33⟩
      · refine lv_if_ne (tgt := 20) hx hb dX8_freed_13 (by decide) (fun c_34 => ?_) (fun c_34 => ?_)
        · exact absurd c_34 (by decide)
        · refine lv_iconst (v := (-1)) hx hb dX8_freed_16 (by decide) ?_
          refine lv_goto (tgt := 25) hx hb dX8_freed_17 (by decide) ?_
          refine lv_istore_n (lv' := [(3, .int (-1)), (0, .ref m0), (1, .int s_), (2, .int p_)]) hx hb dX8_freed_25 rfl hl (by decide) rfl (fun ls hl => ?_)
          refine lv_iload_n hx hb dX8_freed_26 rfl (lv_at hl 0 rfl) ?_
          refine lv_if_eq (tgt := 38) hx hb dX8_freed_27 (by decide) (fun c_35 => ?_) (fun c_35 => ?_)
          · exact absurd c_35 (by decide)
          · refine lv_aload_n hx hb dX8_freed_30 rfl (lv_at hl 1 rfl) ?_
            refine lv_iload_n hx hb dX8_freed_31 rfl (lv_at hl 0 rfl) ?_
            skip
            refine zw_V (As := [.int (-1)]) (rest := []) (wr := [(mhe, .inl (cI, 8, .inl ghe)), (msi, .inl (cI, 8, .inl gsi)), (mce, .inl (cJ, 1280, .inr (.inl gce))), (mki, .inl (cI, 8, .inl gki)), (mpa, .inl (cI, 8, .inl gpa))]) ⟨hx, hb, hml, hown, hts⟩ (c_M_no_1 l D cI cJ cZ cP cS po m0 mrf mki mpa mta mla msl mco mhe mso msi msh mce mca mwo mnu mte mwa mke mma mth mtr (npu) (nte) (nat_) (nde) (nto) (nse) (nhu) (nga) (nsd) (nfa) (nba) (npl) (nen) (nnu) (nwr) (nra) (nik) grf hy0 hy1 hy2 hy3 hy4 hy5 hy6 hy7 hy8 hy9 hy10 hy11 hy12 hy13 H.size) (cwV 1 hts gX8_freed_X8_no rfl rfl rfl ⟨rfl, dh_X8_no⟩ ⟨Nat.le_of_ble_eq_true rfl, Nat.le_of_ble_eq_true rfl⟩) hK hN (hZ.kept hS) hP hD hS hA [0, 1] [2, 3, 4, 5, 6] rfl rfl (by decide) (by decide) (by decide) (va_recv (q := (RX8, TX8, 38)) hK hP (ci := 8) (q0 := 0) rfl rfl) rfl hl.1 rfl (Nat.le_of_ble_eq_true rfl) dX8_freed_32 ⟨Nat.le_of_ble_eq_true rfl, Nat.le_of_ble_eq_true rfl⟩ (fun r_36 u_37 H locs hr_36 hP hD hS => ?_)
            obtain ⟨q_38, rfl⟩ : ∃ z, z = u_37 := ⟨_, rfl⟩
            have h9R := zRe (ws' := [(mhe, .inl (cI, 8, .inl ghe)), (msi, .inl (cI, 8, .inl gsi)), (mce, .inl (cJ, 1280, .inr (.inl gce))), (mki, .inl (cI, 8, .inl gki)), (mpa, .inl (cI, 8, .inl gpa)), (zMO m0 npu nte nat_ nde nto nse nhu nga nsd nfa mrf mki mpa mta mla msl mco mhe mso msi msh mce mca mwo mnu mte nba npl nen nnu nwr mwa mke mma mth mtr nra nik), (mrf, .inl (cI, 8, .inl q_38))]) hP hD rfl
            clear hP hD
            obtain ⟨hP, hD⟩ := h9R
            obtain rfl := hr_36
            refine lv_goto (tgt := 44) hx hb dX8_freed_35 (by decide) ?_
            exact W.iret (v := (-1)) hx hb hr (fun t ht hW => ⟨⟨(-1), q_38, rfl, trivial, zRet ht hP hD [5, 6, 0, 1, 2, 3, 4] (by decide) rfl⟩, hS.F ht⟩) hS.2.2 dX8_freed_44
      · refine lv_if_ne (tgt := 20) hx hb dX8_freed_13 (by decide) (fun c_39 => ?_) (fun c_39 => ?_)
        · exact absurd c_39 (by decide)
        · refine lv_iconst (v := (-1)) hx hb dX8_freed_16 (by decide) ?_
          refine lv_goto (tgt := 25) hx hb dX8_freed_17 (by decide) ?_
          refine lv_istore_n (lv' := [(3, .int (-1)), (0, .ref m0), (1, .int s_), (2, .int p_)]) hx hb dX8_freed_25 rfl hl (by decide) rfl (fun ls hl => ?_)
          refine lv_iload_n hx hb dX8_freed_26 rfl (lv_at hl 0 rfl) ?_
          refine lv_if_eq (tgt := 38) hx hb dX8_freed_27 (by decide) (fun c_40 => ?_) (fun c_40 => ?_)
          · exact absurd c_40 (by decide)
          · refine lv_aload_n hx hb dX8_freed_30 rfl (lv_at hl 1 rfl) ?_
            refine lv_iload_n hx hb dX8_freed_31 rfl (lv_at hl 0 rfl) ?_
            skip
            refine zw_V (As := [.int (-1)]) (rest := []) (wr := [(mhe, .inl (cI, 8, .inl ghe)), (msi, .inl (cI, 8, .inl gsi)), (mce, .inl (cJ, 1280, .inr (.inl gce))), (mki, .inl (cI, 8, .inl gki)), (mpa, .inl (cI, 8, .inl gpa))]) ⟨hx, hb, hml, hown, hts⟩ (c_M_no_1 l D cI cJ cZ cP cS po m0 mrf mki mpa mta mla msl mco mhe mso msi msh mce mca mwo mnu mte mwa mke mma mth mtr (npu) (nte) (nat_) (nde) (nto) (nse) (nhu) (nga) (nsd) (nfa) (nba) (npl) (nen) (nnu) (nwr) (nra) (nik) grf hy0 hy1 hy2 hy3 hy4 hy5 hy6 hy7 hy8 hy9 hy10 hy11 hy12 hy13 H.size) (cwV 1 hts gX8_freed_X8_no rfl rfl rfl ⟨rfl, dh_X8_no⟩ ⟨Nat.le_of_ble_eq_true rfl, Nat.le_of_ble_eq_true rfl⟩) hK hN (hZ.kept hS) hP hD hS hA [0, 1] [2, 3, 4, 5, 6] rfl rfl (by decide) (by decide) (by decide) (va_recv (q := (RX8, TX8, 38)) hK hP (ci := 8) (q0 := 0) rfl rfl) rfl hl.1 rfl (Nat.le_of_ble_eq_true rfl) dX8_freed_32 ⟨Nat.le_of_ble_eq_true rfl, Nat.le_of_ble_eq_true rfl⟩ (fun r_41 u_42 H locs hr_41 hP hD hS => ?_)
            obtain ⟨q_43, rfl⟩ : ∃ z, z = u_42 := ⟨_, rfl⟩
            have h9R := zRe (ws' := [(mhe, .inl (cI, 8, .inl ghe)), (msi, .inl (cI, 8, .inl gsi)), (mce, .inl (cJ, 1280, .inr (.inl gce))), (mki, .inl (cI, 8, .inl gki)), (mpa, .inl (cI, 8, .inl gpa)), (zMO m0 npu nte nat_ nde nto nse nhu nga nsd nfa mrf mki mpa mta mla msl mco mhe mso msi msh mce mca mwo mnu mte nba npl nen nnu nwr mwa mke mma mth mtr nra nik), (mrf, .inl (cI, 8, .inl q_43))]) hP hD rfl
            clear hP hD
            obtain ⟨hP, hD⟩ := h9R
            obtain rfl := hr_41
            refine lv_goto (tgt := 44) hx hb dX8_freed_35 (by decide) ?_
            exact W.iret (v := (-1)) hx hb hr (fun t ht hW => ⟨⟨(-1), q_43, rfl, trivial, zRet ht hP hD [5, 6, 0, 1, 2, 3, 4] (by decide) rfl⟩, hS.F ht⟩) hS.2.2 dX8_freed_44
      · refine lv_if_ne (tgt := 20) hx hb dX8_freed_13 (by decide) (fun c_44 => ?_) (fun c_44 => ?_)
        · refine lv_aload_n hx hb dX8_freed_20 rfl (lv_at hl 0 rfl) ?_
          refine lv_iload_n hx hb dX8_freed_21 rfl (lv_at hl 1 rfl) ?_
          refine zc_V (As := [.int s_]) (rest := []) ⟨hx, hb, hml, hown, hts⟩ (c_M_barsOf l D cI cJ cZ cP cS po m0 mrf mki mpa mta mla msl mco mhe mso msi msh mce mca mwo mnu mte mwa mke mma mth mtr (npu) (nte) (nat_) (nde) (nto) (nse) (nhu) (nga) (nsd) (nfa) (nba) (npl) (nen) (nnu) (nwr) (nra) (nik) ghe gsi gce (s_) hy0 hy1 hy2 hy3 hy4 hy5 hy6 hy7 hy8 hy9 hy10 hy11 hy12 hy13 hp_ghe hp_gsi) (cwV 1 hts gX8_freed_X8_barsOf rfl rfl rfl ⟨rfl, dh_X8_barsOf⟩ ⟨Nat.le_of_ble_eq_true rfl, Nat.le_of_ble_eq_true rfl⟩) hK hN (hZ.kept hS) hP (hP.sub [0, 2, 3, 4] rfl) (va_recv (q := (RX8, TX8, 38)) hK hP (ci := 8) (q0 := 0) rfl rfl) rfl hl.1 rfl (Nat.le_of_ble_eq_true rfl) dX8_freed_22 ⟨Nat.le_of_ble_eq_true rfl, Nat.le_of_ble_eq_true rfl⟩ (fun r_45 hr_45 => ?_)
          obtain ⟨g_46, g_47, hsr_45_0⟩ := hr_45
          refine lv_istore_n (lv' := [(3, .int r_45), (0, .ref m0), (1, .int s_), (2, .int p_)]) hx hb dX8_freed_25 rfl hl (by decide) rfl (fun ls hl => ?_)
          refine lv_iload_n hx hb dX8_freed_26 rfl (lv_at hl 0 rfl) ?_
          refine lv_if_eq (tgt := 38) hx hb dX8_freed_27 (by decide) (fun c_48 => ?_) (fun c_48 => ?_)
          · have fc_48 : r_45.toInt = 0 := zf_eq c_48 rfl (by decide)
            refine lv_aload_n hx hb dX8_freed_38 rfl (lv_at hl 1 rfl) ?_
            refine lv_iload_n hx hb dX8_freed_39 rfl (lv_at hl 2 rfl) ?_
            refine lv_iload_n hx hb dX8_freed_40 rfl (lv_at hl 3 rfl) ?_
            refine zc_V (As := [.int s_, .int p_]) (rest := []) ⟨hx, hb, hml, hown, hts⟩ (c_M_freedBy l D cI cJ cZ cP cS po m0 mrf mki mpa mta mla msl mco mhe mso msi msh mce mca mwo mnu mte mwa mke mma mth mtr (npu) (nte) (nat_) (nde) (nto) (nse) (nhu) (nga) (nsd) (nfa) (nba) (npl) (nen) (nnu) (nwr) (nra) (nik) gki gpa gce (s_) (p_) hy0 hy1 hy2 hy3 hy4 hy5 hy6 hy7 hy8 hy9 hy10 hy11 hy12 hy13 (by omega) (by omega) (by omega) (by omega) hp_gki hp_gpa) (cwV 2 hts gX8_freed_X8_freedBy rfl rfl rfl ⟨rfl, dh_X8_freedBy⟩ ⟨Nat.le_of_ble_eq_true rfl, Nat.le_of_ble_eq_true rfl⟩) hK hN (hZ.kept hS) hP (hP.sub [0, 5, 6, 4] rfl) (va_recv (q := (RX8, TX8, 38)) hK hP (ci := 8) (q0 := 0) rfl rfl) rfl hl.1 rfl (Nat.le_of_ble_eq_true rfl) dX8_freed_41 ⟨Nat.le_of_ble_eq_true rfl, Nat.le_of_ble_eq_true rfl⟩ (fun r_49 hr_49 => ?_)
            exact W.iret (v := r_49) hx hb hr (fun t ht hW => ⟨⟨r_49, grf, rfl, trivial, zRet ht hP hD [0, 1, 2, 3, 4, 5, 6] (by decide) rfl⟩, hS.F ht⟩) hS.2.2 dX8_freed_44
          · have fc_48 : r_45.toInt ≠ 0 := zf_ne c_48 rfl (by decide)
            refine lv_aload_n hx hb dX8_freed_30 rfl (lv_at hl 1 rfl) ?_
            refine lv_iload_n hx hb dX8_freed_31 rfl (lv_at hl 0 rfl) ?_
            skip
            refine zw_V (As := [.int r_45]) (rest := []) (wr := [(mhe, .inl (cI, 8, .inl ghe)), (msi, .inl (cI, 8, .inl gsi)), (mce, .inl (cJ, 1280, .inr (.inl gce))), (mki, .inl (cI, 8, .inl gki)), (mpa, .inl (cI, 8, .inl gpa))]) ⟨hx, hb, hml, hown, hts⟩ (c_M_no l D cI cJ cZ cP cS po m0 mrf mki mpa mta mla msl mco mhe mso msi msh mce mca mwo mnu mte mwa mke mma mth mtr (npu) (nte) (nat_) (nde) (nto) (nse) (nhu) (nga) (nsd) (nfa) (nba) (npl) (nen) (nnu) (nwr) (nra) (nik) grf (r_45) hy0 hy1 hy2 hy3 hy4 hy5 hy6 hy7 hy8 hy9 hy10 hy11 hy12 hy13 (by omega) (by omega) H.size) (cwV 1 hts gX8_freed_X8_no rfl rfl rfl ⟨rfl, dh_X8_no⟩ ⟨Nat.le_of_ble_eq_true rfl, Nat.le_of_ble_eq_true rfl⟩) hK hN (hZ.kept hS) hP hD hS hA [0, 1] [2, 3, 4, 5, 6] rfl rfl (by decide) (by decide) (by decide) (va_recv (q := (RX8, TX8, 38)) hK hP (ci := 8) (q0 := 0) rfl rfl) rfl hl.1 rfl (Nat.le_of_ble_eq_true rfl) dX8_freed_32 ⟨Nat.le_of_ble_eq_true rfl, Nat.le_of_ble_eq_true rfl⟩ (fun r_50 u_51 H locs hr_50 hP hD hS => ?_)
            obtain ⟨q_52, rfl⟩ : ∃ z, z = u_51 := ⟨_, rfl⟩
            have h9R := zRe (ws' := [(mhe, .inl (cI, 8, .inl ghe)), (msi, .inl (cI, 8, .inl gsi)), (mce, .inl (cJ, 1280, .inr (.inl gce))), (mki, .inl (cI, 8, .inl gki)), (mpa, .inl (cI, 8, .inl gpa)), (zMO m0 npu nte nat_ nde nto nse nhu nga nsd nfa mrf mki mpa mta mla msl mco mhe mso msi msh mce mca mwo mnu mte nba npl nen nnu nwr mwa mke mma mth mtr nra nik), (mrf, .inl (cI, 8, .inl q_52))]) hP hD rfl
            clear hP hD
            obtain ⟨hP, hD⟩ := h9R
            have w_53 := hr_50
            obtain rfl : r_45 = r_50 := w_53.symm
            refine lv_goto (tgt := 44) hx hb dX8_freed_35 (by decide) ?_
            exact W.iret (v := r_45) hx hb hr (fun t ht hW => ⟨⟨r_45, q_52, rfl, trivial, zRet ht hP hD [5, 6, 0, 1, 2, 3, 4] (by decide) rfl⟩, hS.F ht⟩) hS.2.2 dX8_freed_44
        · exact absurd c_44 (by decide)
theorem hi_X8_best_8 : ∀ w ∈ u_ws RX8 TX8 38, w ∈ wsX8_best := fun w h => (gl_X8_best_X80 w h).1
set_option maxHeartbeats 4000000 in
set_option maxRecDepth 100000 in
theorem c_M_best (l : Launch) (D : va_G) (cI cJ cZ cP cS : ClassId) (po : zPool) (m0 mrf mki mpa mta mla msl mco mhe mso msi msh mce mca mwo mnu mte mwa mke mma mth mtr : Nat) (npu nte nat_ nde nto nse nhu nga nsd nfa nba npl nen nnu nwr nra nik : Int32) (grf ghe gsi gki gpa : Nat → Int32) (gce : Nat → Int64) (s_ : Int32) (hy0 : 0 ≤ npu.toInt) (hy1 : npu.toInt ≤ 8) (hy2 : 4 ≤ nte.toInt) (hy3 : nte.toInt ≤ 40) (hy4 : 0 ≤ nat_.toInt) (hy5 : nat_.toInt ≤ 40) (hy6 : 0 ≤ nde.toInt) (hy7 : nde.toInt ≤ 24) (hy8 : 0 ≤ nhu.toInt) (hy9 : nhu.toInt ≤ 9) (hy10 : 0 ≤ nra.toInt) (hy11 : nra.toInt ≤ 2000) (hy12 : 0 ≤ nik.toInt) (hy13 : nik.toInt ≤ 1) (hp_ghe : zRg ghe (0) 2) (hp_gsi : zRg gsi (0) 160) (hp_gki : zRg gki (0) 6) (hp_gpa : zRg gpa (0) 9) (hpz : Nat) : Met l yX8_best wsX8_best ({ frames := 3, cells := 0, slots := 0, locals := 65 }) (va_Pc [.ref m0, .int s_] (zW D (zKT cI cJ cZ cP cS) po [(zMO m0 npu nte nat_ nde nto nse nhu nga nsd nfa mrf mki mpa mta mla msl mco mhe mso msi msh mce mca mwo mnu mte nba npl nen nnu nwr mwa mke mma mth mtr nra nik), (mrf, .inl (cI, 8, .inl grf)), (mhe, .inl (cI, 8, .inl ghe)), (msi, .inl (cI, 8, .inl gsi)), (mce, .inl (cJ, 1280, .inr (.inl gce))), (mki, .inl (cI, 8, .inl gki)), (mpa, .inl (cI, 8, .inl gpa))] hpz)) (va_Qi (fun (r : Int32) (grf2 : (Nat → Int32)) => True) (zB D [(zMO m0 npu nte nat_ nde nto nse nhu nga nsd nfa mrf mki mpa mta mla msl mco mhe mso msi msh mce mca mwo mnu mte nba npl nen nnu nwr mwa mke mma mth mtr nra nik), (mrf, .inl (cI, 8, .inl grf)), (mhe, .inl (cI, 8, .inl ghe)), (msi, .inl (cI, 8, .inl gsi)), (mce, .inl (cJ, 1280, .inr (.inl gce))), (mki, .inl (cI, 8, .inl gki)), (mpa, .inl (cI, 8, .inl gpa))] hpz (fun (grf2 : Nat → Int32) => [(zMO m0 npu nte nat_ nde nto nse nhu nga nsd nfa mrf mki mpa mta mla msl mco mhe mso msi msh mce mca mwo mnu mte nba npl nen nnu nwr mwa mke mma mth mtr nra nik), (mrf, .inl (cI, 8, .inl grf2)), (mhe, .inl (cI, 8, .inl ghe)), (msi, .inl (cI, 8, .inl gsi)), (mce, .inl (cJ, 1280, .inr (.inl gce))), (mki, .inl (cI, 8, .inl gki)), (mpa, .inl (cI, 8, .inl gpa))])) (va_A [(zMO m0 npu nte nat_ nde nto nse nhu nga nsd nfa mrf mki mpa mta mla msl mco mhe mso msi msh mce mca mwo mnu mte nba npl nen nnu nwr mwa mke mma mth mtr nra nik), (mrf, .inl (cI, 8, .inl grf)), (mhe, .inl (cI, 8, .inl ghe)), (msi, .inl (cI, 8, .inl gsi)), (mce, .inl (cJ, 1280, .inr (.inl gce))), (mki, .inl (cI, 8, .inl gki)), (mpa, .inl (cI, 8, .inl gpa))] hpz)) 0 0 (va_A [(zMO m0 npu nte nat_ nde nto nse nhu nga nsd nfa mrf mki mpa mta mla msl mco mhe mso msi msh mce mca mwo mnu mte nba npl nen nnu nwr mwa mke mma mth mtr nra nik), (mrf, .inl (cI, 8, .inl grf)), (mhe, .inl (cI, 8, .inl ghe)), (msi, .inl (cI, 8, .inl gsi)), (mce, .inl (cJ, 1280, .inr (.inl gce))), (mki, .inl (cI, 8, .inl gki)), (mpa, .inl (cI, 8, .inl gpa))] hpz) := by
  refine Met.ofW (cc := cX8_best) (maxL := 5) (ret := (some .int)) (by decide) rfl ?_
  intro p e s m args below meth c s₁ B hml hv
  obtain ⟨rfl, hsz, hP, hK, hD0, hN, hZ⟩ := hv
  have hx := B.exec
  have hb := B.bytes
  have hr := B.returns
  have hts := atoms_spec (ws := wsX8_best) B.pre
  have hown : s.vm.findClass RX8 = some m.cls := findClass_of_methodNamed B.named
  have hlocks := B.notSynchronized
  subst hsz
  have hD := hD0.self (sz := s.heap.size)
  have hA := zA_of hD
  have hl := lv_entry ([.ref m0, .int s_]) (n := 5) (Nat.le_of_ble_eq_true rfl)
  rw [lg_entry_eq]
  generalize (lg_sl ([.ref m0, .int s_]) ++ List.replicate (5 - (lg_sl ([.ref m0, .int s_])).length) Slot.unset).toArray = ls at hl ⊢
  replace hl : lv_has ls 5 [(0, .ref m0), (1, .int s_)] := hl
  refine zw_begin hP hD (fun H locs hP1 hS => ?_)
  clear hP
  have hP := hP1
  clear hP1
  refine lv_aload_n hx hb dX8_best_0 rfl (lv_at hl 0 rfl) ?_
  refine lv_iload_n hx hb dX8_best_1 rfl (lv_at hl 1 rfl) ?_
  refine zc_V (As := [.int s_]) (rest := []) ⟨hx, hb, hml, hown, hts⟩ (c_M_barsOf l D cI cJ cZ cP cS po m0 mrf mki mpa mta mla msl mco mhe mso msi msh mce mca mwo mnu mte mwa mke mma mth mtr (npu) (nte) (nat_) (nde) (nto) (nse) (nhu) (nga) (nsd) (nfa) (nba) (npl) (nen) (nnu) (nwr) (nra) (nik) ghe gsi gce (s_) hy0 hy1 hy2 hy3 hy4 hy5 hy6 hy7 hy8 hy9 hy10 hy11 hy12 hy13 hp_ghe hp_gsi) (cwV 1 hts gX8_best_X8_barsOf rfl rfl rfl ⟨rfl, dh_X8_barsOf⟩ ⟨Nat.le_of_ble_eq_true rfl, Nat.le_of_ble_eq_true rfl⟩) hK hN (hZ.kept hS) hP (hP.sub [0, 2, 3, 4] rfl) (va_recv (q := (RX8, TX8, 38)) hK hP (ci := 8) (q0 := 0) rfl rfl) rfl hl.1 rfl (Nat.le_of_ble_eq_true rfl) dX8_best_2 ⟨Nat.le_of_ble_eq_true rfl, Nat.le_of_ble_eq_true rfl⟩ (fun r_1 hr_1 => ?_)
  obtain ⟨g_2, g_3, hsr_1_0⟩ := hr_1
  refine lv_istore_n (lv' := [(2, .int r_1), (0, .ref m0), (1, .int s_)]) hx hb dX8_best_5 rfl hl (by decide) rfl (fun ls hl => ?_)
  refine lv_iload_n hx hb dX8_best_6 rfl (lv_at hl 0 rfl) ?_
  refine lv_if_eq (tgt := 16) hx hb dX8_best_7 (by decide) (fun c_4 => ?_) (fun c_4 => ?_)
  · have fc_4 : r_1.toInt = 0 := zf_eq c_4 rfl (by decide)
    refine lv_iconst (v := (-1)) hx hb dX8_best_16 (by decide) ?_
    refine lv_istore_n (lv' := [(3, .int (-1)), (2, .int r_1), (0, .ref m0), (1, .int s_)]) hx hb dX8_best_17 rfl hl (by decide) rfl (fun ls hl => ?_)
    refine lv_iconst (v := 0) hx hb dX8_best_18 (by decide) ?_
    refine lv_istore (lv' := [(4, .int 0), (3, .int (-1)), (2, .int r_1), (0, .ref m0), (1, .int s_)]) hx hb dX8_best_19 hl (by decide) rfl (fun ls hl => ?_)
    obtain ⟨i_21, hi_21⟩ : ∃ i : Int32, i = 0 := ⟨_, rfl⟩
    replace hl : lv_has ls 5 [(4, .int i_21), (3, .int (-1)), (0, .ref m0), (1, .int s_)] := by rw [hi_21]; exact lv_sub hl [0, 1, 3, 4] rfl
    have h1i_21 : i_21.toInt = 0 := by rw [hi_21]; decide
    obtain ⟨nfu, hni_21⟩ : ∃ nq9 : Nat, npu.toInt ≤ i_21.toInt + (nq9 : Int) := ⟨((npu.toInt : Int) - 0).toNat, by omega⟩
    have hloi_21 : 0 ≤ i_21.toInt := by omega
    obtain ⟨v_5, hv_5⟩ : ∃ g : Int32, g = (-1) := ⟨_, rfl⟩
    replace hl : lv_has ls 5 [(4, .int i_21), (3, .int v_5), (0, .ref m0), (1, .int s_)] := by rw [hv_5]; exact hl
    have hbv_5 : -1 ≤ v_5.toInt ∧ v_5.toInt ≤ 7 := by rw [hv_5]; exact ⟨by decide, by decide⟩
    clear h1i_21 hi_21 hv_5
    skip
    revert hni_21
    revert hloi_21
    revert hbv_5
    revert hl
    revert hS
    revert hD
    revert hP
    revert ls
    revert locs
    revert H
    revert v_5
    revert i_21
    induction nfu with
    | zero =>
      intro i_21 v_5 H locs ls hP hD hS hl hbv_5 hloi_21 hni_21
      have hzi_21 : npu.toInt ≤ i_21.toInt := by omega
      refine lv_iload hx hb dX8_best_21 (lv_at hl 0 rfl) ?_
      refine lv_aload_n hx hb dX8_best_23 rfl (lv_at hl 2 rfl) ?_
      refine va_get (D := D) (ci := 8) (v := .int npu) (C := RX8) (T := TX8) (N := 38) hx hb hts hi_X8_best_8 hown hK hP 0 rfl rfl 0 (by decide) (hts (.fieldLink RX8 90 "TheLiningsInItModel" "pulls" "I") (List.mem_of_getElem? (i := 1) rfl)) (fun _ h9 => h9) rfl dX8_best_24 ?_
      refine lv_icmp_ge (tgt := 60) hx hb dX8_best_27 (by decide) (fun c_6 => ?_) (fun c_6 => ?_)
      · have fc_6 : npu.toInt ≤ i_21.toInt := zf_le c_6 rfl rfl
        refine lv_iload_n hx hb dX8_best_60 rfl (lv_at hl 1 rfl) ?_
        exact W.iret (v := v_5) hx hb hr (fun t ht hW => ⟨⟨v_5, grf, rfl, trivial, zRet ht hP hD [0, 1, 2, 3, 4, 5, 6] (by decide) rfl⟩, hS.F ht⟩) hS.2.2 dX8_best_61
      · exfalso; have fc_6 : i_21.toInt < npu.toInt := zf_nle c_6 rfl rfl; omega
    | succ nfu ih =>
      intro i_21 v_5 H locs ls hP hD hS hl hbv_5 hloi_21 hni_21
      refine lv_iload hx hb dX8_best_21 (lv_at hl 0 rfl) ?_
      refine lv_aload_n hx hb dX8_best_23 rfl (lv_at hl 2 rfl) ?_
      refine va_get (D := D) (ci := 8) (v := .int npu) (C := RX8) (T := TX8) (N := 38) hx hb hts hi_X8_best_8 hown hK hP 0 rfl rfl 0 (by decide) (hts (.fieldLink RX8 90 "TheLiningsInItModel" "pulls" "I") (List.mem_of_getElem? (i := 1) rfl)) (fun _ h9 => h9) rfl dX8_best_24 ?_
      refine lv_icmp_ge (tgt := 60) hx hb dX8_best_27 (by decide) (fun c_7 => ?_) (fun c_7 => ?_)
      · have fc_7 : npu.toInt ≤ i_21.toInt := zf_le c_7 rfl rfl
        refine lv_iload_n hx hb dX8_best_60 rfl (lv_at hl 1 rfl) ?_
        exact W.iret (v := v_5) hx hb hr (fun t ht hW => ⟨⟨v_5, grf, rfl, trivial, zRet ht hP hD [0, 1, 2, 3, 4, 5, 6] (by decide) rfl⟩, hS.F ht⟩) hS.2.2 dX8_best_61
      · have fc_7 : i_21.toInt < npu.toInt := zf_nle c_7 rfl rfl
        refine lv_iload_n hx hb dX8_best_30 rfl (lv_at hl 1 rfl) ?_
        refine lv_iconst (v := (-1)) hx hb dX8_best_31 (by decide) ?_
        refine lv_icmp_eq (tgt := 51) hx hb dX8_best_32 (by decide) (fun c_8 => ?_) (fun c_8 => ?_)
        · have fc_8 : v_5.toInt = (-1) := zf_eq c_8 rfl (by decide)
          refine lv_iload hx hb dX8_best_51 (lv_at hl 0 rfl) ?_
          refine lv_istore_n (lv' := [(3, .int i_21), (4, .int i_21), (0, .ref m0), (1, .int s_)]) hx hb dX8_best_53 rfl hl (by decide) rfl (fun ls hl => ?_)
          obtain ⟨x_9, ex_9⟩ : ∃ y : Int32, y = i_21 + 1 := ⟨_, rfl⟩
          have qx_9 : x_9.toInt = i_21.toInt + 1 := dw_inc ex_9 fc_7
          refine lv_iinc (v := x_9) (lv' := [(4, .int x_9), (3, .int i_21), (0, .ref m0), (1, .int s_)]) hx hb dX8_best_54 hl (k := 1) rfl ex_9.symm (by decide) rfl (fun ls hl => ?_)
          refine lv_goto (tgt := 21) hx hb dX8_best_57 (by decide) ?_
          exact ih x_9 i_21 _ _ _ (hP.sub [0, 1, 2, 3, 4, 5, 6] rfl) (hD.sub [0, 1, 2, 3, 4, 5, 6] (by decide) rfl) hS (lv_sub hl [0, 1, 2, 3] rfl) ⟨by omega, by omega⟩ (dw_lo hloi_21 qx_9) (dw_hn hni_21 qx_9)
        · have fc_8 : v_5.toInt ≠ (-1) := zf_ne c_8 rfl (by decide)
          refine lv_aload_n hx hb dX8_best_35 rfl (lv_at hl 2 rfl) ?_
          refine lv_iload_n hx hb dX8_best_36 rfl (lv_at hl 3 rfl) ?_
          refine lv_iload hx hb dX8_best_37 (lv_at hl 0 rfl) ?_
          refine zc_V (As := [.int s_, .int i_21]) (rest := []) ⟨hx, hb, hml, hown, hts⟩ (c_M_freedBy l D cI cJ cZ cP cS po m0 mrf mki mpa mta mla msl mco mhe mso msi msh mce mca mwo mnu mte mwa mke mma mth mtr (npu) (nte) (nat_) (nde) (nto) (nse) (nhu) (nga) (nsd) (nfa) (nba) (npl) (nen) (nnu) (nwr) (nra) (nik) gki gpa gce (s_) (i_21) hy0 hy1 hy2 hy3 hy4 hy5 hy6 hy7 hy8 hy9 hy10 hy11 hy12 hy13 (by omega) (by omega) (by omega) (by omega) hp_gki hp_gpa) (cwV 2 hts gX8_best_X8_freedBy rfl rfl rfl ⟨rfl, dh_X8_freedBy⟩ ⟨Nat.le_of_ble_eq_true rfl, Nat.le_of_ble_eq_true rfl⟩) hK hN (hZ.kept hS) hP (hP.sub [0, 5, 6, 4] rfl) (va_recv (q := (RX8, TX8, 38)) hK hP (ci := 8) (q0 := 0) rfl rfl) rfl hl.1 rfl (Nat.le_of_ble_eq_true rfl) dX8_best_39 ⟨Nat.le_of_ble_eq_true rfl, Nat.le_of_ble_eq_true rfl⟩ (fun r_10 hr_10 => ?_)
          refine lv_aload_n hx hb dX8_best_42 rfl (lv_at hl 2 rfl) ?_
          refine lv_iload_n hx hb dX8_best_43 rfl (lv_at hl 3 rfl) ?_
          refine lv_iload_n hx hb dX8_best_44 rfl (lv_at hl 1 rfl) ?_
          refine zc_V (As := [.int s_, .int v_5]) (rest := [.int r_10]) ⟨hx, hb, hml, hown, hts⟩ (c_M_freedBy l D cI cJ cZ cP cS po m0 mrf mki mpa mta mla msl mco mhe mso msi msh mce mca mwo mnu mte mwa mke mma mth mtr (npu) (nte) (nat_) (nde) (nto) (nse) (nhu) (nga) (nsd) (nfa) (nba) (npl) (nen) (nnu) (nwr) (nra) (nik) gki gpa gce (s_) (v_5) hy0 hy1 hy2 hy3 hy4 hy5 hy6 hy7 hy8 hy9 hy10 hy11 hy12 hy13 (by omega) (by omega) (by omega) hbv_5.2 hp_gki hp_gpa) (cwV 2 hts gX8_best_X8_freedBy rfl rfl rfl ⟨rfl, dh_X8_freedBy⟩ ⟨Nat.le_of_ble_eq_true rfl, Nat.le_of_ble_eq_true rfl⟩) hK hN (hZ.kept hS) hP (hP.sub [0, 5, 6, 4] rfl) (va_recv (q := (RX8, TX8, 38)) hK hP (ci := 8) (q0 := 0) rfl rfl) rfl hl.1 rfl (Nat.le_of_ble_eq_true rfl) dX8_best_45 ⟨Nat.le_of_ble_eq_true rfl, Nat.le_of_ble_eq_true rfl⟩ (fun r_11 hr_11 => ?_)
          refine lv_icmp_le (tgt := 54) hx hb dX8_best_48 (by decide) (fun c_12 => ?_) (fun c_12 => ?_)
          · have fc_12 : r_10.toInt ≤ r_11.toInt := zf_le c_12 rfl rfl
            obtain ⟨x_13, ex_13⟩ : ∃ y : Int32, y = i_21 + 1 := ⟨_, rfl⟩
            have qx_13 : x_13.toInt = i_21.toInt + 1 := dw_inc ex_13 fc_7
            refine lv_iinc (v := x_13) (lv' := [(4, .int x_13), (3, .int v_5), (0, .ref m0), (1, .int s_)]) hx hb dX8_best_54 hl (k := 0) rfl ex_13.symm (by decide) rfl (fun ls hl => ?_)
            refine lv_goto (tgt := 21) hx hb dX8_best_57 (by decide) ?_
            exact ih x_13 v_5 _ _ _ (hP.sub [0, 1, 2, 3, 4, 5, 6] rfl) (hD.sub [0, 1, 2, 3, 4, 5, 6] (by decide) rfl) hS (lv_sub hl [0, 1, 2, 3] rfl) hbv_5 (dw_lo hloi_21 qx_13) (dw_hn hni_21 qx_13)
          · have fc_12 : r_11.toInt < r_10.toInt := zf_nle c_12 rfl rfl
            refine lv_iload hx hb dX8_best_51 (lv_at hl 0 rfl) ?_
            refine lv_istore_n (lv' := [(3, .int i_21), (4, .int i_21), (0, .ref m0), (1, .int s_)]) hx hb dX8_best_53 rfl hl (by decide) rfl (fun ls hl => ?_)
            obtain ⟨x_14, ex_14⟩ : ∃ y : Int32, y = i_21 + 1 := ⟨_, rfl⟩
            have qx_14 : x_14.toInt = i_21.toInt + 1 := dw_inc ex_14 fc_7
            refine lv_iinc (v := x_14) (lv' := [(4, .int x_14), (3, .int i_21), (0, .ref m0), (1, .int s_)]) hx hb dX8_best_54 hl (k := 1) rfl ex_14.symm (by decide) rfl (fun ls hl => ?_)
            refine lv_goto (tgt := 21) hx hb dX8_best_57 (by decide) ?_
            exact ih x_14 i_21 _ _ _ (hP.sub [0, 1, 2, 3, 4, 5, 6] rfl) (hD.sub [0, 1, 2, 3, 4, 5, 6] (by decide) rfl) hS (lv_sub hl [0, 1, 2, 3] rfl) ⟨by omega, by omega⟩ (dw_lo hloi_21 qx_14) (dw_hn hni_21 qx_14)
  · have fc_4 : r_1.toInt ≠ 0 := zf_ne c_4 rfl (by decide)
    refine lv_aload_n hx hb dX8_best_10 rfl (lv_at hl 1 rfl) ?_
    refine lv_iload_n hx hb dX8_best_11 rfl (lv_at hl 0 rfl) ?_
    skip
    refine zw_V (As := [.int r_1]) (rest := []) (wr := [(mhe, .inl (cI, 8, .inl ghe)), (msi, .inl (cI, 8, .inl gsi)), (mce, .inl (cJ, 1280, .inr (.inl gce))), (mki, .inl (cI, 8, .inl gki)), (mpa, .inl (cI, 8, .inl gpa))]) ⟨hx, hb, hml, hown, hts⟩ (c_M_noTen l D cI cJ cZ cP cS po m0 mrf mki mpa mta mla msl mco mhe mso msi msh mce mca mwo mnu mte mwa mke mma mth mtr (npu) (nte) (nat_) (nde) (nto) (nse) (nhu) (nga) (nsd) (nfa) (nba) (npl) (nen) (nnu) (nwr) (nra) (nik) grf (r_1) hy0 hy1 hy2 hy3 hy4 hy5 hy6 hy7 hy8 hy9 hy10 hy11 hy12 hy13 (by omega) (by omega) H.size) (cwV 1 hts gX8_best_X8_noTen rfl rfl rfl ⟨rfl, dh_X8_noTen⟩ ⟨Nat.le_of_ble_eq_true rfl, Nat.le_of_ble_eq_true rfl⟩) hK hN (hZ.kept hS) hP hD hS hA [0, 1] [2, 3, 4, 5, 6] rfl rfl (by decide) (by decide) (by decide) (va_recv (q := (RX8, TX8, 38)) hK hP (ci := 8) (q0 := 0) rfl rfl) rfl hl.1 rfl (Nat.le_of_ble_eq_true rfl) dX8_best_12 ⟨Nat.le_of_ble_eq_true rfl, Nat.le_of_ble_eq_true rfl⟩ (fun r_15 u_16 H locs hr_15 hP hD hS => ?_)
    obtain ⟨q_17, rfl⟩ : ∃ z, z = u_16 := ⟨_, rfl⟩
    have h9R := zRe (ws' := [(mhe, .inl (cI, 8, .inl ghe)), (msi, .inl (cI, 8, .inl gsi)), (mce, .inl (cJ, 1280, .inr (.inl gce))), (mki, .inl (cI, 8, .inl gki)), (mpa, .inl (cI, 8, .inl gpa)), (zMO m0 npu nte nat_ nde nto nse nhu nga nsd nfa mrf mki mpa mta mla msl mco mhe mso msi msh mce mca mwo mnu mte nba npl nen nnu nwr mwa mke mma mth mtr nra nik), (mrf, .inl (cI, 8, .inl q_17))]) hP hD rfl
    clear hP hD
    obtain ⟨hP, hD⟩ := h9R
    obtain ⟨g_18, g_19⟩ := hr_15
    exact W.iret (v := r_15) hx hb hr (fun t ht hW => ⟨⟨r_15, q_17, rfl, trivial, zRet ht hP hD [5, 6, 0, 1, 2, 3, 4] (by decide) rfl⟩, hS.F ht⟩) hS.2.2 dX8_best_15
set_option maxHeartbeats 4000000 in
set_option maxRecDepth 100000 in
theorem c_M_behind (l : Launch) (D : va_G) (cI cJ cZ cP cS : ClassId) (po : zPool) (m0 mrf mki mpa mta mla msl mco mhe mso msi msh mce mca mwo mnu mte mwa mke mma mth mtr : Nat) (npu nte nat_ nde nto nse nhu nga nsd nfa nba npl nen nnu nwr nra nik : Int32) (grf ghe gsi gki gpa : Nat → Int32) (gce : Nat → Int64) (s_ p_ to : Int32) (hy0 : 0 ≤ npu.toInt) (hy1 : npu.toInt ≤ 8) (hy2 : 4 ≤ nte.toInt) (hy3 : nte.toInt ≤ 40) (hy4 : 0 ≤ nat_.toInt) (hy5 : nat_.toInt ≤ 40) (hy6 : 0 ≤ nde.toInt) (hy7 : nde.toInt ≤ 24) (hy8 : 0 ≤ nhu.toInt) (hy9 : nhu.toInt ≤ 9) (hy10 : 0 ≤ nra.toInt) (hy11 : nra.toInt ≤ 2000) (hy12 : 0 ≤ nik.toInt) (hy13 : nik.toInt ≤ 1) (hp_ghe : zRg ghe (0) 2) (hp_gsi : zRg gsi (0) 160) (hp_gki : zRg gki (0) 6) (hp_gpa : zRg gpa (0) 9) (hpz : Nat) : Met l yX8_behind wsX8_behind ({ frames := 3, cells := 0, slots := 0, locals := 65 }) (va_Pc [.ref m0, .int s_, .int p_, .int to] (zW D (zKT cI cJ cZ cP cS) po [(zMO m0 npu nte nat_ nde nto nse nhu nga nsd nfa mrf mki mpa mta mla msl mco mhe mso msi msh mce mca mwo mnu mte nba npl nen nnu nwr mwa mke mma mth mtr nra nik), (mrf, .inl (cI, 8, .inl grf)), (mhe, .inl (cI, 8, .inl ghe)), (msi, .inl (cI, 8, .inl gsi)), (mce, .inl (cJ, 1280, .inr (.inl gce))), (mki, .inl (cI, 8, .inl gki)), (mpa, .inl (cI, 8, .inl gpa))] hpz)) (va_Qi (fun (r : Int32) (grf2 : (Nat → Int32)) => True) (zB D [(zMO m0 npu nte nat_ nde nto nse nhu nga nsd nfa mrf mki mpa mta mla msl mco mhe mso msi msh mce mca mwo mnu mte nba npl nen nnu nwr mwa mke mma mth mtr nra nik), (mrf, .inl (cI, 8, .inl grf)), (mhe, .inl (cI, 8, .inl ghe)), (msi, .inl (cI, 8, .inl gsi)), (mce, .inl (cJ, 1280, .inr (.inl gce))), (mki, .inl (cI, 8, .inl gki)), (mpa, .inl (cI, 8, .inl gpa))] hpz (fun (grf2 : Nat → Int32) => [(zMO m0 npu nte nat_ nde nto nse nhu nga nsd nfa mrf mki mpa mta mla msl mco mhe mso msi msh mce mca mwo mnu mte nba npl nen nnu nwr mwa mke mma mth mtr nra nik), (mrf, .inl (cI, 8, .inl grf2)), (mhe, .inl (cI, 8, .inl ghe)), (msi, .inl (cI, 8, .inl gsi)), (mce, .inl (cJ, 1280, .inr (.inl gce))), (mki, .inl (cI, 8, .inl gki)), (mpa, .inl (cI, 8, .inl gpa))])) (va_A [(zMO m0 npu nte nat_ nde nto nse nhu nga nsd nfa mrf mki mpa mta mla msl mco mhe mso msi msh mce mca mwo mnu mte nba npl nen nnu nwr mwa mke mma mth mtr nra nik), (mrf, .inl (cI, 8, .inl grf)), (mhe, .inl (cI, 8, .inl ghe)), (msi, .inl (cI, 8, .inl gsi)), (mce, .inl (cJ, 1280, .inr (.inl gce))), (mki, .inl (cI, 8, .inl gki)), (mpa, .inl (cI, 8, .inl gpa))] hpz)) 0 0 (va_A [(zMO m0 npu nte nat_ nde nto nse nhu nga nsd nfa mrf mki mpa mta mla msl mco mhe mso msi msh mce mca mwo mnu mte nba npl nen nnu nwr mwa mke mma mth mtr nra nik), (mrf, .inl (cI, 8, .inl grf)), (mhe, .inl (cI, 8, .inl ghe)), (msi, .inl (cI, 8, .inl gsi)), (mce, .inl (cJ, 1280, .inr (.inl gce))), (mki, .inl (cI, 8, .inl gki)), (mpa, .inl (cI, 8, .inl gpa))] hpz) := by
  refine Met.ofW (cc := cX8_behind) (maxL := 8) (ret := (some .int)) (by decide) rfl ?_
  intro p e s m args below meth c s₁ B hml hv
  obtain ⟨rfl, hsz, hP, hK, hD0, hN, hZ⟩ := hv
  have hx := B.exec
  have hb := B.bytes
  have hr := B.returns
  have hts := atoms_spec (ws := wsX8_behind) B.pre
  have hown : s.vm.findClass RX8 = some m.cls := findClass_of_methodNamed B.named
  have hlocks := B.notSynchronized
  subst hsz
  have hD := hD0.self (sz := s.heap.size)
  have hA := zA_of hD
  have hl := lv_entry ([.ref m0, .int s_, .int p_, .int to]) (n := 8) (Nat.le_of_ble_eq_true rfl)
  rw [lg_entry_eq]
  generalize (lg_sl ([.ref m0, .int s_, .int p_, .int to]) ++ List.replicate (8 - (lg_sl ([.ref m0, .int s_, .int p_, .int to])).length) Slot.unset).toArray = ls at hl ⊢
  replace hl : lv_has ls 8 [(0, .ref m0), (1, .int s_), (2, .int p_), (3, .int to)] := hl
  refine zw_begin hP hD (fun H locs hP1 hS => ?_)
  clear hP
  have hP := hP1
  clear hP1
  refine lv_aload_n hx hb dX8_behind_0 rfl (lv_at hl 0 rfl) ?_
  refine lv_iload_n hx hb dX8_behind_1 rfl (lv_at hl 1 rfl) ?_
  refine zc_V (As := [.int s_]) (rest := []) ⟨hx, hb, hml, hown, hts⟩ (c_M_isShelf l D cI cJ cZ cP cS po m0 mrf mki mpa mta mla msl mco mhe mso msi msh mce mca mwo mnu mte mwa mke mma mth mtr (npu) (nte) (nat_) (nde) (nto) (nse) (nhu) (nga) (nsd) (nfa) (nba) (npl) (nen) (nnu) (nwr) (nra) (nik) (s_) hy0 hy1 hy2 hy3 hy4 hy5 hy6 hy7 hy8 hy9 hy10 hy11 hy12 hy13) (cwV 1 hts gX8_behind_X8_isShelf rfl rfl rfl ⟨rfl, dh_X8_isShelf⟩ ⟨Nat.le_of_ble_eq_true rfl, Nat.le_of_ble_eq_true rfl⟩) hK hN (hZ.kept hS) hP (hP.sub [0] rfl) (va_recv (q := (RX8, TX8, 38)) hK hP (ci := 8) (q0 := 0) rfl rfl) rfl hl.1 rfl (Nat.le_of_ble_eq_true rfl) dX8_behind_2 ⟨Nat.le_of_ble_eq_true rfl, Nat.le_of_ble_eq_true rfl⟩ (fun r_1 hr_1 => ?_)
  rcases hr_1 with ⟨rfl, g_2⟩ | ⟨rfl, g_3, g_4⟩ | ⟨rfl, g_5, g_6⟩
  · refine lv_if_eq (tgt := 20) hx hb dX8_behind_5 (by decide) (fun c_7 => ?_) (fun c_7 => ?_)
    · refine lv_aload_n hx hb dX8_behind_20 rfl (lv_at hl 0 rfl) ?_
      refine lv_iload_n hx hb dX8_behind_21 rfl (lv_at hl 1 rfl) ?_
      refine zc_V (As := [.int s_]) (rest := []) ⟨hx, hb, hml, hown, hts⟩ (c_M_barsOf l D cI cJ cZ cP cS po m0 mrf mki mpa mta mla msl mco mhe mso msi msh mce mca mwo mnu mte mwa mke mma mth mtr (npu) (nte) (nat_) (nde) (nto) (nse) (nhu) (nga) (nsd) (nfa) (nba) (npl) (nen) (nnu) (nwr) (nra) (nik) ghe gsi gce (s_) hy0 hy1 hy2 hy3 hy4 hy5 hy6 hy7 hy8 hy9 hy10 hy11 hy12 hy13 hp_ghe hp_gsi) (cwV 1 hts gX8_behind_X8_barsOf rfl rfl rfl ⟨rfl, dh_X8_barsOf⟩ ⟨Nat.le_of_ble_eq_true rfl, Nat.le_of_ble_eq_true rfl⟩) hK hN (hZ.kept hS) hP (hP.sub [0, 2, 3, 4] rfl) (va_recv (q := (RX8, TX8, 38)) hK hP (ci := 8) (q0 := 0) rfl rfl) rfl hl.1 rfl (Nat.le_of_ble_eq_true rfl) dX8_behind_22 ⟨Nat.le_of_ble_eq_true rfl, Nat.le_of_ble_eq_true rfl⟩ (fun r_8 hr_8 => ?_)
      obtain ⟨g_9, g_10, hsr_8_0⟩ := hr_8
      refine lv_istore (lv' := [(4, .int r_8), (0, .ref m0), (1, .int s_), (2, .int p_), (3, .int to)]) hx hb dX8_behind_25 hl (by decide) rfl (fun ls hl => ?_)
      refine lv_iload hx hb dX8_behind_27 (lv_at hl 0 rfl) ?_
      refine lv_if_ne (tgt := 46) hx hb dX8_behind_29 (by decide) (fun c_11 => ?_) (fun c_11 => ?_)
      · have fc_11 : r_8.toInt ≠ 0 := zf_ne c_11 rfl (by decide)
        refine lv_iload hx hb dX8_behind_46 (lv_at hl 0 rfl) ?_
        refine lv_if_eq (tgt := 58) hx hb dX8_behind_48 (by decide) (fun c_12 => ?_) (fun c_12 => ?_)
        · exfalso; have fc_12 : r_8.toInt = 0 := zf_eq c_12 rfl (by decide); omega
        · have fc_12 : r_8.toInt ≠ 0 := zf_ne c_12 rfl (by decide)
          refine lv_aload_n hx hb dX8_behind_51 rfl (lv_at hl 1 rfl) ?_
          refine lv_iload hx hb dX8_behind_52 (lv_at hl 0 rfl) ?_
          skip
          refine zw_V (As := [.int r_8]) (rest := []) (wr := [(mhe, .inl (cI, 8, .inl ghe)), (msi, .inl (cI, 8, .inl gsi)), (mce, .inl (cJ, 1280, .inr (.inl gce))), (mki, .inl (cI, 8, .inl gki)), (mpa, .inl (cI, 8, .inl gpa))]) ⟨hx, hb, hml, hown, hts⟩ (c_M_no l D cI cJ cZ cP cS po m0 mrf mki mpa mta mla msl mco mhe mso msi msh mce mca mwo mnu mte mwa mke mma mth mtr (npu) (nte) (nat_) (nde) (nto) (nse) (nhu) (nga) (nsd) (nfa) (nba) (npl) (nen) (nnu) (nwr) (nra) (nik) grf (r_8) hy0 hy1 hy2 hy3 hy4 hy5 hy6 hy7 hy8 hy9 hy10 hy11 hy12 hy13 (by omega) (by omega) H.size) (cwV 1 hts gX8_behind_X8_no rfl rfl rfl ⟨rfl, dh_X8_no⟩ ⟨Nat.le_of_ble_eq_true rfl, Nat.le_of_ble_eq_true rfl⟩) hK hN (hZ.kept hS) hP hD hS hA [0, 1] [2, 3, 4, 5, 6] rfl rfl (by decide) (by decide) (by decide) (va_recv (q := (RX8, TX8, 38)) hK hP (ci := 8) (q0 := 0) rfl rfl) rfl hl.1 rfl (Nat.le_of_ble_eq_true rfl) dX8_behind_54 ⟨Nat.le_of_ble_eq_true rfl, Nat.le_of_ble_eq_true rfl⟩ (fun r_13 u_14 H locs hr_13 hP hD hS => ?_)
          obtain ⟨q_15, rfl⟩ : ∃ z, z = u_14 := ⟨_, rfl⟩
          have h9R := zRe (ws' := [(mhe, .inl (cI, 8, .inl ghe)), (msi, .inl (cI, 8, .inl gsi)), (mce, .inl (cJ, 1280, .inr (.inl gce))), (mki, .inl (cI, 8, .inl gki)), (mpa, .inl (cI, 8, .inl gpa)), (zMO m0 npu nte nat_ nde nto nse nhu nga nsd nfa mrf mki mpa mta mla msl mco mhe mso msi msh mce mca mwo mnu mte nba npl nen nnu nwr mwa mke mma mth mtr nra nik), (mrf, .inl (cI, 8, .inl q_15))]) hP hD rfl
          clear hP hD
          obtain ⟨hP, hD⟩ := h9R
          have w_16 := hr_13
          obtain rfl : r_8 = r_13 := w_16.symm
          exact W.iret (v := r_8) hx hb hr (fun t ht hW => ⟨⟨r_8, q_15, rfl, trivial, zRet ht hP hD [5, 6, 0, 1, 2, 3, 4] (by decide) rfl⟩, hS.F ht⟩) hS.2.2 dX8_behind_57
      · have fc_11 : r_8.toInt = 0 := zf_eq c_11 rfl (by decide)
        refine lv_iload_n hx hb dX8_behind_32 rfl (lv_at hl 4 rfl) ?_
        refine lv_if_lt (tgt := 42) hx hb dX8_behind_33 (by decide) (fun c_17 => ?_) (fun c_17 => ?_)
        · have fc_17 : to.toInt < 0 := zf_lt c_17 rfl (by decide)
          refine lv_bipush (v := (-6)) hx hb dX8_behind_42 (by decide) ?_
          refine lv_istore (lv' := [(4, .int (-6)), (0, .ref m0), (1, .int s_), (2, .int p_), (3, .int to)]) hx hb dX8_behind_44 hl (by decide) rfl (fun ls hl => ?_)
          refine lv_iload hx hb dX8_behind_46 (lv_at hl 0 rfl) ?_
          refine lv_if_eq (tgt := 58) hx hb dX8_behind_48 (by decide) (fun c_18 => ?_) (fun c_18 => ?_)
          · exact absurd c_18 (by decide)
          · refine lv_aload_n hx hb dX8_behind_51 rfl (lv_at hl 1 rfl) ?_
            refine lv_iload hx hb dX8_behind_52 (lv_at hl 0 rfl) ?_
            skip
            refine zw_V (As := [.int (-6)]) (rest := []) (wr := [(mhe, .inl (cI, 8, .inl ghe)), (msi, .inl (cI, 8, .inl gsi)), (mce, .inl (cJ, 1280, .inr (.inl gce))), (mki, .inl (cI, 8, .inl gki)), (mpa, .inl (cI, 8, .inl gpa))]) ⟨hx, hb, hml, hown, hts⟩ (c_M_no_6 l D cI cJ cZ cP cS po m0 mrf mki mpa mta mla msl mco mhe mso msi msh mce mca mwo mnu mte mwa mke mma mth mtr (npu) (nte) (nat_) (nde) (nto) (nse) (nhu) (nga) (nsd) (nfa) (nba) (npl) (nen) (nnu) (nwr) (nra) (nik) grf hy0 hy1 hy2 hy3 hy4 hy5 hy6 hy7 hy8 hy9 hy10 hy11 hy12 hy13 H.size) (cwV 1 hts gX8_behind_X8_no rfl rfl rfl ⟨rfl, dh_X8_no⟩ ⟨Nat.le_of_ble_eq_true rfl, Nat.le_of_ble_eq_true rfl⟩) hK hN (hZ.kept hS) hP hD hS hA [0, 1] [2, 3, 4, 5, 6] rfl rfl (by decide) (by decide) (by decide) (va_recv (q := (RX8, TX8, 38)) hK hP (ci := 8) (q0 := 0) rfl rfl) rfl hl.1 rfl (Nat.le_of_ble_eq_true rfl) dX8_behind_54 ⟨Nat.le_of_ble_eq_true rfl, Nat.le_of_ble_eq_true rfl⟩ (fun r_19 u_20 H locs hr_19 hP hD hS => ?_)
            obtain ⟨q_21, rfl⟩ : ∃ z, z = u_20 := ⟨_, rfl⟩
            have h9R := zRe (ws' := [(mhe, .inl (cI, 8, .inl ghe)), (msi, .inl (cI, 8, .inl gsi)), (mce, .inl (cJ, 1280, .inr (.inl gce))), (mki, .inl (cI, 8, .inl gki)), (mpa, .inl (cI, 8, .inl gpa)), (zMO m0 npu nte nat_ nde nto nse nhu nga nsd nfa mrf mki mpa mta mla msl mco mhe mso msi msh mce mca mwo mnu mte nba npl nen nnu nwr mwa mke mma mth mtr nra nik), (mrf, .inl (cI, 8, .inl q_21))]) hP hD rfl
            clear hP hD
            obtain ⟨hP, hD⟩ := h9R
            obtain rfl := hr_19
            exact W.iret (v := (-6)) hx hb hr (fun t ht hW => ⟨⟨(-6), q_21, rfl, trivial, zRet ht hP hD [5, 6, 0, 1, 2, 3, 4] (by decide) rfl⟩, hS.F ht⟩) hS.2.2 dX8_behind_57
        · have fc_17 : 0 ≤ to.toInt := zf_nlt c_17 rfl (by decide)
          refine lv_iload_n hx hb dX8_behind_36 rfl (lv_at hl 4 rfl) ?_
          refine lv_bipush (v := 24) hx hb dX8_behind_37 (by decide) ?_
          refine lv_icmp_le (tgt := 46) hx hb dX8_behind_39 (by decide) (fun c_22 => ?_) (fun c_22 => ?_)
          · have fc_22 : to.toInt ≤ 24 := zf_le c_22 rfl (by decide)
            refine lv_iload hx hb dX8_behind_46 (lv_at hl 0 rfl) ?_
            refine lv_if_eq (tgt := 58) hx hb dX8_behind_48 (by decide) (fun c_23 => ?_) (fun c_23 => ?_)
            · have fc_23 : r_8.toInt = 0 := zf_eq c_23 rfl (by decide)
              refine lv_iload_n hx hb dX8_behind_58 rfl (lv_at hl 4 rfl) ?_
              refine lv_if_ne (tgt := 74) hx hb dX8_behind_59 (by decide) (fun c_24 => ?_) (fun c_24 => ?_)
              · have fc_24 : to.toInt ≠ 0 := zf_ne c_24 rfl (by decide)
                refine lv_iconst (v := 0) hx hb dX8_behind_74 (by decide) ?_
                refine lv_istore (lv' := [(5, .int 0), (4, .int r_8), (0, .ref m0), (1, .int s_), (2, .int p_), (3, .int to)]) hx hb dX8_behind_75 hl (by decide) rfl (fun ls hl => ?_)
                refine lv_iconst (v := 1) hx hb dX8_behind_77 (by decide) ?_
                refine lv_istore (lv' := [(6, .int 1), (5, .int 0), (4, .int r_8), (0, .ref m0), (1, .int s_), (2, .int p_), (3, .int to)]) hx hb dX8_behind_78 hl (by decide) rfl (fun ls hl => ?_)
                obtain ⟨i_80, hi_80⟩ : ∃ i : Int32, i = 1 := ⟨_, rfl⟩
                replace hl : lv_has ls 8 [(6, .int i_80), (5, .int 0), (0, .ref m0), (1, .int s_), (2, .int p_), (3, .int to)] := by rw [hi_80]; exact lv_sub hl [0, 1, 3, 4, 5, 6] rfl
                have h1i_80 : i_80.toInt = 1 := by rw [hi_80]; decide
                obtain ⟨nfu, hni_80⟩ : ∃ nq9 : Nat, 25 ≤ i_80.toInt + (nq9 : Int) := ⟨((25 : Int) - 1).toNat, by omega⟩
                have hloi_80 : 1 ≤ i_80.toInt := by omega
                obtain ⟨v_25, hv_25⟩ : ∃ g : Int32, g = 0 := ⟨_, rfl⟩
                replace hl : lv_has ls 8 [(6, .int i_80), (5, .int v_25), (0, .ref m0), (1, .int s_), (2, .int p_), (3, .int to)] := by rw [hv_25]; exact hl
                clear h1i_80 hi_80 hv_25
                skip
                revert hni_80
                revert hloi_80
                revert hl
                revert hS
                revert hD
                revert hP
                revert ls
                revert locs
                revert H
                revert v_25
                revert i_80
                induction nfu with
                | zero =>
                  intro i_80 v_25 H locs ls hP hD hS hl hloi_80 hni_80
                  have hzi_80 : 25 ≤ i_80.toInt := by omega
                  refine lv_iload hx hb dX8_behind_80 (lv_at hl 0 rfl) ?_
                  refine lv_bipush (v := 24) hx hb dX8_behind_82 (by decide) ?_
                  refine lv_icmp_gt (tgt := 159) hx hb dX8_behind_84 (by decide) (fun c_26 => ?_) (fun c_26 => ?_)
                  · have fc_26 : 24 < i_80.toInt := zf_lt c_26 (by decide) rfl
                    refine lv_iload hx hb dX8_behind_159 (lv_at hl 1 rfl) ?_
                    exact W.iret (v := v_25) hx hb hr (fun t ht hW => ⟨⟨v_25, grf, rfl, trivial, zRet ht hP hD [0, 1, 2, 3, 4, 5, 6] (by decide) rfl⟩, hS.F ht⟩) hS.2.2 dX8_behind_161
                  · exfalso; have fc_26 : i_80.toInt ≤ 24 := zf_nlt c_26 (by decide) rfl; omega
                | succ nfu ih =>
                  intro i_80 v_25 H locs ls hP hD hS hl hloi_80 hni_80
                  refine lv_iload hx hb dX8_behind_80 (lv_at hl 0 rfl) ?_
                  refine lv_bipush (v := 24) hx hb dX8_behind_82 (by decide) ?_
                  refine lv_icmp_gt (tgt := 159) hx hb dX8_behind_84 (by decide) (fun c_27 => ?_) (fun c_27 => ?_)
                  · have fc_27 : 24 < i_80.toInt := zf_lt c_27 (by decide) rfl
                    refine lv_iload hx hb dX8_behind_159 (lv_at hl 1 rfl) ?_
                    exact W.iret (v := v_25) hx hb hr (fun t ht hW => ⟨⟨v_25, grf, rfl, trivial, zRet ht hP hD [0, 1, 2, 3, 4, 5, 6] (by decide) rfl⟩, hS.F ht⟩) hS.2.2 dX8_behind_161
                  · have fc_27 : i_80.toInt ≤ 24 := zf_nlt c_27 (by decide) rfl
                    refine lv_aload_n hx hb dX8_behind_87 rfl (lv_at hl 2 rfl) ?_
                    refine lv_iload_n hx hb dX8_behind_88 rfl (lv_at hl 4 rfl) ?_
                    refine lv_iload hx hb dX8_behind_89 (lv_at hl 0 rfl) ?_
                    refine zc_V (As := [.int p_, .int i_80]) (rest := []) ⟨hx, hb, hml, hown, hts⟩ (c_M_ways l D cI cJ cZ cP cS po m0 mrf mki mpa mta mla msl mco mhe mso msi msh mce mca mwo mnu mte mwa mke mma mth mtr (npu) (nte) (nat_) (nde) (nto) (nse) (nhu) (nga) (nsd) (nfa) (nba) (npl) (nen) (nnu) (nwr) (nra) (nik) gki gpa (p_) (i_80) hy0 hy1 hy2 hy3 hy4 hy5 hy6 hy7 hy8 hy9 hy10 hy11 hy12 hy13 (by omega) (by omega) hp_gki hp_gpa) (cwV 2 hts gX8_behind_X8_ways rfl rfl rfl ⟨rfl, dh_X8_ways⟩ ⟨Nat.le_of_ble_eq_true rfl, Nat.le_of_ble_eq_true rfl⟩) hK hN (hZ.kept hS) hP (hP.sub [0, 5, 6] rfl) (va_recv (q := (RX8, TX8, 38)) hK hP (ci := 8) (q0 := 0) rfl rfl) rfl hl.1 rfl (Nat.le_of_ble_eq_true rfl) dX8_behind_91 ⟨Nat.le_of_ble_eq_true rfl, Nat.le_of_ble_eq_true rfl⟩ (fun r_28 hr_28 => ?_)
                    obtain ⟨g_29, g_30⟩ := hr_28
                    refine lv_istore (lv' := [(7, .int r_28), (6, .int i_80), (5, .int v_25), (0, .ref m0), (1, .int s_), (2, .int p_), (3, .int to)]) hx hb dX8_behind_94 hl (by decide) rfl (fun ls hl => ?_)
                    refine lv_aload_n hx hb dX8_behind_96 rfl (lv_at hl 3 rfl) ?_
                    refine lv_iload_n hx hb dX8_behind_97 rfl (lv_at hl 5 rfl) ?_
                    refine lv_iload hx hb dX8_behind_98 (lv_at hl 1 rfl) ?_
                    refine lv_iconst (v := 1) hx hb dX8_behind_100 (by decide) ?_
                    refine zc_V (As := [.int p_, .int i_80, .int 1]) (rest := []) ⟨hx, hb, hml, hown, hts⟩ (c_M_deep l D cI cJ cZ cP cS po m0 mrf mki mpa mta mla msl mco mhe mso msi msh mce mca mwo mnu mte mwa mke mma mth mtr (npu) (nte) (nat_) (nde) (nto) (nse) (nhu) (nga) (nsd) (nfa) (nba) (npl) (nen) (nnu) (nwr) (nra) (nik) gki gpa (p_) (i_80) (1) hy0 hy1 hy2 hy3 hy4 hy5 hy6 hy7 hy8 hy9 hy10 hy11 hy12 hy13 (by omega) (by omega) (by omega) (by omega) hp_gki hp_gpa) (cwV 3 hts gX8_behind_X8_deep rfl rfl rfl ⟨rfl, dh_X8_deep⟩ ⟨Nat.le_of_ble_eq_true rfl, Nat.le_of_ble_eq_true rfl⟩) hK hN (hZ.kept hS) hP (hP.sub [0, 5, 6] rfl) (va_recv (q := (RX8, TX8, 38)) hK hP (ci := 8) (q0 := 0) rfl rfl) rfl hl.1 rfl (Nat.le_of_ble_eq_true rfl) dX8_behind_101 ⟨Nat.le_of_ble_eq_true rfl, Nat.le_of_ble_eq_true rfl⟩ (fun r_31 hr_31 => ?_)
                    obtain ⟨g_32, g_33⟩ := hr_31
                    refine lv_iload_n hx hb dX8_behind_104 rfl (lv_at hl 6 rfl) ?_
                    refine lv_icmp_ne (tgt := 123) hx hb dX8_behind_105 (by decide) (fun c_34 => ?_) (fun c_34 => ?_)
                    · have fc_34 : r_31.toInt ≠ to.toInt := zf_ne c_34 rfl rfl
                      refine lv_aload_n hx hb dX8_behind_123 rfl (lv_at hl 3 rfl) ?_
                      refine lv_iload_n hx hb dX8_behind_124 rfl (lv_at hl 5 rfl) ?_
                      refine lv_iload hx hb dX8_behind_125 (lv_at hl 1 rfl) ?_
                      refine lv_iconst (v := 0) hx hb dX8_behind_127 (by decide) ?_
                      refine zc_V (As := [.int p_, .int i_80, .int 0]) (rest := []) ⟨hx, hb, hml, hown, hts⟩ (c_M_deep l D cI cJ cZ cP cS po m0 mrf mki mpa mta mla msl mco mhe mso msi msh mce mca mwo mnu mte mwa mke mma mth mtr (npu) (nte) (nat_) (nde) (nto) (nse) (nhu) (nga) (nsd) (nfa) (nba) (npl) (nen) (nnu) (nwr) (nra) (nik) gki gpa (p_) (i_80) (0) hy0 hy1 hy2 hy3 hy4 hy5 hy6 hy7 hy8 hy9 hy10 hy11 hy12 hy13 (by omega) (by omega) (by omega) (by omega) hp_gki hp_gpa) (cwV 3 hts gX8_behind_X8_deep rfl rfl rfl ⟨rfl, dh_X8_deep⟩ ⟨Nat.le_of_ble_eq_true rfl, Nat.le_of_ble_eq_true rfl⟩) hK hN (hZ.kept hS) hP (hP.sub [0, 5, 6] rfl) (va_recv (q := (RX8, TX8, 38)) hK hP (ci := 8) (q0 := 0) rfl rfl) rfl hl.1 rfl (Nat.le_of_ble_eq_true rfl) dX8_behind_128 ⟨Nat.le_of_ble_eq_true rfl, Nat.le_of_ble_eq_true rfl⟩ (fun r_35 hr_35 => ?_)
                      obtain ⟨g_36, g_37⟩ := hr_35
                      refine lv_iload_n hx hb dX8_behind_131 rfl (lv_at hl 6 rfl) ?_
                      refine lv_icmp_ne (tgt := 153) hx hb dX8_behind_132 (by decide) (fun c_38 => ?_) (fun c_38 => ?_)
                      · have fc_38 : r_35.toInt ≠ to.toInt := zf_ne c_38 rfl rfl
                        obtain ⟨x_39, ex_39⟩ : ∃ y : Int32, y = i_80 + 1 := ⟨_, rfl⟩
                        have qx_39 : x_39.toInt = i_80.toInt + 1 := by rw [ex_39]; exact zf_add rfl (by decide) (by omega) (by omega)
                        refine lv_iinc (v := x_39) (lv' := [(6, .int x_39), (7, .int r_28), (5, .int v_25), (0, .ref m0), (1, .int s_), (2, .int p_), (3, .int to)]) hx hb dX8_behind_153 hl (k := 1) rfl ex_39.symm (by decide) rfl (fun ls hl => ?_)
                        refine lv_goto (tgt := 80) hx hb dX8_behind_156 (by decide) ?_
                        exact ih x_39 v_25 _ _ _ (hP.sub [0, 1, 2, 3, 4, 5, 6] rfl) (hD.sub [0, 1, 2, 3, 4, 5, 6] (by decide) rfl) hS (lv_sub hl [0, 2, 3, 4, 5, 6] rfl) (dw_lo hloi_80 qx_39) (dw_hn hni_80 qx_39)
                      · have fc_38 : r_35.toInt = to.toInt := zf_eq c_38 rfl rfl
                        refine lv_iload hx hb dX8_behind_135 (lv_at hl 2 rfl) ?_
                        refine lv_bipush (v := 12) hx hb dX8_behind_137 (by decide) ?_
                        refine lv_iload hx hb dX8_behind_139 (lv_at hl 0 rfl) ?_
                        refine lv_isub hx hb dX8_behind_141 ?_
                        refine lv_topi (fun x_40 ex_40 => ?_)
                        have qx_40 : x_40.toInt = 12 - r_28.toInt := by rw [ex_40]; exact zf_sub (by decide) rfl (by omega) (by omega)
                        refine lv_aload_n hx hb dX8_behind_142 rfl (lv_at hl 3 rfl) ?_
                        refine lv_iload_n hx hb dX8_behind_143 rfl (lv_at hl 4 rfl) ?_
                        refine lv_iload hx hb dX8_behind_144 (lv_at hl 1 rfl) ?_
                        refine zc_V (As := [.int s_, .int i_80]) (rest := [.int x_40, .int v_25]) ⟨hx, hb, hml, hown, hts⟩ (c_M_intAt l D cI cJ cZ cP cS po m0 mrf mki mpa mta mla msl mco mhe mso msi msh mce mca mwo mnu mte mwa mke mma mth mtr (npu) (nte) (nat_) (nde) (nto) (nse) (nhu) (nga) (nsd) (nfa) (nba) (npl) (nen) (nnu) (nwr) (nra) (nik) gce (s_) (i_80) hy0 hy1 hy2 hy3 hy4 hy5 hy6 hy7 hy8 hy9 hy10 hy11 hy12 hy13 (by omega) (by omega) (by omega) (by omega)) (cwV 2 hts gX8_behind_X8_intAt rfl rfl rfl ⟨rfl, dh_X8_intAt⟩ ⟨Nat.le_of_ble_eq_true rfl, Nat.le_of_ble_eq_true rfl⟩) hK hN (hZ.kept hS) hP (hP.sub [0, 4] rfl) (va_recv (q := (RX8, TX8, 38)) hK hP (ci := 8) (q0 := 0) rfl rfl) rfl hl.1 rfl (Nat.le_of_ble_eq_true rfl) dX8_behind_146 ⟨Nat.le_of_ble_eq_true rfl, Nat.le_of_ble_eq_true rfl⟩ (fun r_41 hr_41 => ?_)
                        refine lv_imul hx hb dX8_behind_149 ?_
                        refine lv_topi (fun x_42 ex_42 => ?_)
                        refine lv_iadd hx hb dX8_behind_150 ?_
                        refine lv_topi (fun x_43 ex_43 => ?_)
                        refine lv_istore (lv' := [(5, .int x_43), (7, .int r_28), (6, .int i_80), (0, .ref m0), (1, .int s_), (2, .int p_), (3, .int to)]) hx hb dX8_behind_151 hl (by decide) rfl (fun ls hl => ?_)
                        obtain ⟨x_44, ex_44⟩ : ∃ y : Int32, y = i_80 + 1 := ⟨_, rfl⟩
                        have qx_44 : x_44.toInt = i_80.toInt + 1 := by rw [ex_44]; exact zf_add rfl (by decide) (by omega) (by omega)
                        refine lv_iinc (v := x_44) (lv' := [(6, .int x_44), (5, .int x_43), (7, .int r_28), (0, .ref m0), (1, .int s_), (2, .int p_), (3, .int to)]) hx hb dX8_behind_153 hl (k := 2) rfl ex_44.symm (by decide) rfl (fun ls hl => ?_)
                        refine lv_goto (tgt := 80) hx hb dX8_behind_156 (by decide) ?_
                        exact ih x_44 x_43 _ _ _ (hP.sub [0, 1, 2, 3, 4, 5, 6] rfl) (hD.sub [0, 1, 2, 3, 4, 5, 6] (by decide) rfl) hS (lv_sub hl [0, 1, 3, 4, 5, 6] rfl) (dw_lo hloi_80 qx_44) (dw_hn hni_80 qx_44)
                    · have fc_34 : r_31.toInt = to.toInt := zf_eq c_34 rfl rfl
                      refine lv_iload hx hb dX8_behind_108 (lv_at hl 2 rfl) ?_
                      refine lv_iload hx hb dX8_behind_110 (lv_at hl 0 rfl) ?_
                      refine lv_aload_n hx hb dX8_behind_112 rfl (lv_at hl 3 rfl) ?_
                      refine lv_iload_n hx hb dX8_behind_113 rfl (lv_at hl 4 rfl) ?_
                      refine lv_iload hx hb dX8_behind_114 (lv_at hl 1 rfl) ?_
                      refine zc_V (As := [.int s_, .int i_80]) (rest := [.int r_28, .int v_25]) ⟨hx, hb, hml, hown, hts⟩ (c_M_intAt l D cI cJ cZ cP cS po m0 mrf mki mpa mta mla msl mco mhe mso msi msh mce mca mwo mnu mte mwa mke mma mth mtr (npu) (nte) (nat_) (nde) (nto) (nse) (nhu) (nga) (nsd) (nfa) (nba) (npl) (nen) (nnu) (nwr) (nra) (nik) gce (s_) (i_80) hy0 hy1 hy2 hy3 hy4 hy5 hy6 hy7 hy8 hy9 hy10 hy11 hy12 hy13 (by omega) (by omega) (by omega) (by omega)) (cwV 2 hts gX8_behind_X8_intAt rfl rfl rfl ⟨rfl, dh_X8_intAt⟩ ⟨Nat.le_of_ble_eq_true rfl, Nat.le_of_ble_eq_true rfl⟩) hK hN (hZ.kept hS) hP (hP.sub [0, 4] rfl) (va_recv (q := (RX8, TX8, 38)) hK hP (ci := 8) (q0 := 0) rfl rfl) rfl hl.1 rfl (Nat.le_of_ble_eq_true rfl) dX8_behind_116 ⟨Nat.le_of_ble_eq_true rfl, Nat.le_of_ble_eq_true rfl⟩ (fun r_45 hr_45 => ?_)
                      refine lv_imul hx hb dX8_behind_119 ?_
                      refine lv_topi (fun x_46 ex_46 => ?_)
                      refine lv_iadd hx hb dX8_behind_120 ?_
                      refine lv_topi (fun x_47 ex_47 => ?_)
                      refine lv_istore (lv' := [(5, .int x_47), (7, .int r_28), (6, .int i_80), (0, .ref m0), (1, .int s_), (2, .int p_), (3, .int to)]) hx hb dX8_behind_121 hl (by decide) rfl (fun ls hl => ?_)
                      refine lv_aload_n hx hb dX8_behind_123 rfl (lv_at hl 3 rfl) ?_
                      refine lv_iload_n hx hb dX8_behind_124 rfl (lv_at hl 5 rfl) ?_
                      refine lv_iload hx hb dX8_behind_125 (lv_at hl 2 rfl) ?_
                      refine lv_iconst (v := 0) hx hb dX8_behind_127 (by decide) ?_
                      refine zc_V (As := [.int p_, .int i_80, .int 0]) (rest := []) ⟨hx, hb, hml, hown, hts⟩ (c_M_deep l D cI cJ cZ cP cS po m0 mrf mki mpa mta mla msl mco mhe mso msi msh mce mca mwo mnu mte mwa mke mma mth mtr (npu) (nte) (nat_) (nde) (nto) (nse) (nhu) (nga) (nsd) (nfa) (nba) (npl) (nen) (nnu) (nwr) (nra) (nik) gki gpa (p_) (i_80) (0) hy0 hy1 hy2 hy3 hy4 hy5 hy6 hy7 hy8 hy9 hy10 hy11 hy12 hy13 (by omega) (by omega) (by omega) (by omega) hp_gki hp_gpa) (cwV 3 hts gX8_behind_X8_deep rfl rfl rfl ⟨rfl, dh_X8_deep⟩ ⟨Nat.le_of_ble_eq_true rfl, Nat.le_of_ble_eq_true rfl⟩) hK hN (hZ.kept hS) hP (hP.sub [0, 5, 6] rfl) (va_recv (q := (RX8, TX8, 38)) hK hP (ci := 8) (q0 := 0) rfl rfl) rfl hl.1 rfl (Nat.le_of_ble_eq_true rfl) dX8_behind_128 ⟨Nat.le_of_ble_eq_true rfl, Nat.le_of_ble_eq_true rfl⟩ (fun r_48 hr_48 => ?_)
                      obtain ⟨g_49, g_50⟩ := hr_48
                      refine lv_iload_n hx hb dX8_behind_131 rfl (lv_at hl 6 rfl) ?_
                      refine lv_icmp_ne (tgt := 153) hx hb dX8_behind_132 (by decide) (fun c_51 => ?_) (fun c_51 => ?_)
                      · have fc_51 : r_48.toInt ≠ to.toInt := zf_ne c_51 rfl rfl
                        obtain ⟨x_52, ex_52⟩ : ∃ y : Int32, y = i_80 + 1 := ⟨_, rfl⟩
                        have qx_52 : x_52.toInt = i_80.toInt + 1 := by rw [ex_52]; exact zf_add rfl (by decide) (by omega) (by omega)
                        refine lv_iinc (v := x_52) (lv' := [(6, .int x_52), (5, .int x_47), (7, .int r_28), (0, .ref m0), (1, .int s_), (2, .int p_), (3, .int to)]) hx hb dX8_behind_153 hl (k := 2) rfl ex_52.symm (by decide) rfl (fun ls hl => ?_)
                        refine lv_goto (tgt := 80) hx hb dX8_behind_156 (by decide) ?_
                        exact ih x_52 x_47 _ _ _ (hP.sub [0, 1, 2, 3, 4, 5, 6] rfl) (hD.sub [0, 1, 2, 3, 4, 5, 6] (by decide) rfl) hS (lv_sub hl [0, 1, 3, 4, 5, 6] rfl) (dw_lo hloi_80 qx_52) (dw_hn hni_80 qx_52)
                      · have fc_51 : r_48.toInt = to.toInt := zf_eq c_51 rfl rfl
                        refine lv_iload hx hb dX8_behind_135 (lv_at hl 0 rfl) ?_
                        refine lv_bipush (v := 12) hx hb dX8_behind_137 (by decide) ?_
                        refine lv_iload hx hb dX8_behind_139 (lv_at hl 1 rfl) ?_
                        refine lv_isub hx hb dX8_behind_141 ?_
                        refine lv_topi (fun x_53 ex_53 => ?_)
                        have qx_53 : x_53.toInt = 12 - r_28.toInt := by rw [ex_53]; exact zf_sub (by decide) rfl (by omega) (by omega)
                        refine lv_aload_n hx hb dX8_behind_142 rfl (lv_at hl 3 rfl) ?_
                        refine lv_iload_n hx hb dX8_behind_143 rfl (lv_at hl 4 rfl) ?_
                        refine lv_iload hx hb dX8_behind_144 (lv_at hl 2 rfl) ?_
                        refine zc_V (As := [.int s_, .int i_80]) (rest := [.int x_53, .int x_47]) ⟨hx, hb, hml, hown, hts⟩ (c_M_intAt l D cI cJ cZ cP cS po m0 mrf mki mpa mta mla msl mco mhe mso msi msh mce mca mwo mnu mte mwa mke mma mth mtr (npu) (nte) (nat_) (nde) (nto) (nse) (nhu) (nga) (nsd) (nfa) (nba) (npl) (nen) (nnu) (nwr) (nra) (nik) gce (s_) (i_80) hy0 hy1 hy2 hy3 hy4 hy5 hy6 hy7 hy8 hy9 hy10 hy11 hy12 hy13 (by omega) (by omega) (by omega) (by omega)) (cwV 2 hts gX8_behind_X8_intAt rfl rfl rfl ⟨rfl, dh_X8_intAt⟩ ⟨Nat.le_of_ble_eq_true rfl, Nat.le_of_ble_eq_true rfl⟩) hK hN (hZ.kept hS) hP (hP.sub [0, 4] rfl) (va_recv (q := (RX8, TX8, 38)) hK hP (ci := 8) (q0 := 0) rfl rfl) rfl hl.1 rfl (Nat.le_of_ble_eq_true rfl) dX8_behind_146 ⟨Nat.le_of_ble_eq_true rfl, Nat.le_of_ble_eq_true rfl⟩ (fun r_54 hr_54 => ?_)
                        refine lv_imul hx hb dX8_behind_149 ?_
                        refine lv_topi (fun x_55 ex_55 => ?_)
                        refine lv_iadd hx hb dX8_behind_150 ?_
                        refine lv_topi (fun x_56 ex_56 => ?_)
                        refine lv_istore (lv' := [(5, .int x_56), (7, .int r_28), (6, .int i_80), (0, .ref m0), (1, .int s_), (2, .int p_), (3, .int to)]) hx hb dX8_behind_151 hl (by decide) rfl (fun ls hl => ?_)
                        obtain ⟨x_57, ex_57⟩ : ∃ y : Int32, y = i_80 + 1 := ⟨_, rfl⟩
                        have qx_57 : x_57.toInt = i_80.toInt + 1 := by rw [ex_57]; exact zf_add rfl (by decide) (by omega) (by omega)
                        refine lv_iinc (v := x_57) (lv' := [(6, .int x_57), (5, .int x_56), (7, .int r_28), (0, .ref m0), (1, .int s_), (2, .int p_), (3, .int to)]) hx hb dX8_behind_153 hl (k := 2) rfl ex_57.symm (by decide) rfl (fun ls hl => ?_)
                        refine lv_goto (tgt := 80) hx hb dX8_behind_156 (by decide) ?_
                        exact ih x_57 x_56 _ _ _ (hP.sub [0, 1, 2, 3, 4, 5, 6] rfl) (hD.sub [0, 1, 2, 3, 4, 5, 6] (by decide) rfl) hS (lv_sub hl [0, 1, 3, 4, 5, 6] rfl) (dw_lo hloi_80 qx_57) (dw_hn hni_80 qx_57)
              · have fc_24 : to.toInt = 0 := zf_eq c_24 rfl (by decide)
                refine lv_bipush (v := 12) hx hb dX8_behind_62 (by decide) ?_
                refine lv_aload_n hx hb dX8_behind_64 rfl (lv_at hl 1 rfl) ?_
                refine lv_iload_n hx hb dX8_behind_65 rfl (lv_at hl 2 rfl) ?_
                refine lv_iconst (v := 0) hx hb dX8_behind_66 (by decide) ?_
                have kc0 : (0 : Int32).toInt = 0 := by decide
                refine zc_V (As := [.int s_, .int 0]) (rest := [.int 12]) ⟨hx, hb, hml, hown, hts⟩ (c_M_intAt l D cI cJ cZ cP cS po m0 mrf mki mpa mta mla msl mco mhe mso msi msh mce mca mwo mnu mte mwa mke mma mth mtr (npu) (nte) (nat_) (nde) (nto) (nse) (nhu) (nga) (nsd) (nfa) (nba) (npl) (nen) (nnu) (nwr) (nra) (nik) gce (s_) (0) hy0 hy1 hy2 hy3 hy4 hy5 hy6 hy7 hy8 hy9 hy10 hy11 hy12 hy13 (by omega) (by omega) (by omega) (by omega)) (cwV 2 hts gX8_behind_X8_intAt rfl rfl rfl ⟨rfl, dh_X8_intAt⟩ ⟨Nat.le_of_ble_eq_true rfl, Nat.le_of_ble_eq_true rfl⟩) hK hN (hZ.kept hS) hP (hP.sub [0, 4] rfl) (va_recv (q := (RX8, TX8, 38)) hK hP (ci := 8) (q0 := 0) rfl rfl) rfl hl.1 rfl (Nat.le_of_ble_eq_true rfl) dX8_behind_67 ⟨Nat.le_of_ble_eq_true rfl, Nat.le_of_ble_eq_true rfl⟩ (fun r_58 hr_58 => ?_)
                refine lv_imul hx hb dX8_behind_70 ?_
                refine lv_topi (fun x_59 ex_59 => ?_)
                refine lv_goto (tgt := 75) hx hb dX8_behind_71 (by decide) ?_
                refine lv_istore (lv' := [(5, .int x_59), (4, .int r_8), (0, .ref m0), (1, .int s_), (2, .int p_), (3, .int to)]) hx hb dX8_behind_75 hl (by decide) rfl (fun ls hl => ?_)
                refine lv_iconst (v := 1) hx hb dX8_behind_77 (by decide) ?_
                refine lv_istore (lv' := [(6, .int 1), (5, .int x_59), (4, .int r_8), (0, .ref m0), (1, .int s_), (2, .int p_), (3, .int to)]) hx hb dX8_behind_78 hl (by decide) rfl (fun ls hl => ?_)
                obtain ⟨i_80, hi_80⟩ : ∃ i : Int32, i = 1 := ⟨_, rfl⟩
                replace hl : lv_has ls 8 [(6, .int i_80), (5, .int x_59), (0, .ref m0), (1, .int s_), (2, .int p_), (3, .int to)] := by rw [hi_80]; exact lv_sub hl [0, 1, 3, 4, 5, 6] rfl
                have h1i_80 : i_80.toInt = 1 := by rw [hi_80]; decide
                obtain ⟨nfu, hni_80⟩ : ∃ nq9 : Nat, 25 ≤ i_80.toInt + (nq9 : Int) := ⟨((25 : Int) - 1).toNat, by omega⟩
                have hloi_80 : 1 ≤ i_80.toInt := by omega
                obtain ⟨v_60, hv_60⟩ : ∃ g : Int32, g = x_59 := ⟨_, rfl⟩
                replace hl : lv_has ls 8 [(6, .int i_80), (5, .int v_60), (0, .ref m0), (1, .int s_), (2, .int p_), (3, .int to)] := by rw [hv_60]; exact hl
                clear h1i_80 hi_80 hv_60
                skip
                revert hni_80
                revert hloi_80
                revert hl
                revert hS
                revert hD
                revert hP
                revert ls
                revert locs
                revert H
                revert v_60
                revert i_80
                induction nfu with
                | zero =>
                  intro i_80 v_60 H locs ls hP hD hS hl hloi_80 hni_80
                  have hzi_80 : 25 ≤ i_80.toInt := by omega
                  refine lv_iload hx hb dX8_behind_80 (lv_at hl 0 rfl) ?_
                  refine lv_bipush (v := 24) hx hb dX8_behind_82 (by decide) ?_
                  refine lv_icmp_gt (tgt := 159) hx hb dX8_behind_84 (by decide) (fun c_61 => ?_) (fun c_61 => ?_)
                  · have fc_61 : 24 < i_80.toInt := zf_lt c_61 (by decide) rfl
                    refine lv_iload hx hb dX8_behind_159 (lv_at hl 1 rfl) ?_
                    exact W.iret (v := v_60) hx hb hr (fun t ht hW => ⟨⟨v_60, grf, rfl, trivial, zRet ht hP hD [0, 1, 2, 3, 4, 5, 6] (by decide) rfl⟩, hS.F ht⟩) hS.2.2 dX8_behind_161
                  · exfalso; have fc_61 : i_80.toInt ≤ 24 := zf_nlt c_61 (by decide) rfl; omega
                | succ nfu ih =>
                  intro i_80 v_60 H locs ls hP hD hS hl hloi_80 hni_80
                  refine lv_iload hx hb dX8_behind_80 (lv_at hl 0 rfl) ?_
                  refine lv_bipush (v := 24) hx hb dX8_behind_82 (by decide) ?_
                  refine lv_icmp_gt (tgt := 159) hx hb dX8_behind_84 (by decide) (fun c_62 => ?_) (fun c_62 => ?_)
                  · have fc_62 : 24 < i_80.toInt := zf_lt c_62 (by decide) rfl
                    refine lv_iload hx hb dX8_behind_159 (lv_at hl 1 rfl) ?_
                    exact W.iret (v := v_60) hx hb hr (fun t ht hW => ⟨⟨v_60, grf, rfl, trivial, zRet ht hP hD [0, 1, 2, 3, 4, 5, 6] (by decide) rfl⟩, hS.F ht⟩) hS.2.2 dX8_behind_161
                  · have fc_62 : i_80.toInt ≤ 24 := zf_nlt c_62 (by decide) rfl
                    refine lv_aload_n hx hb dX8_behind_87 rfl (lv_at hl 2 rfl) ?_
                    refine lv_iload_n hx hb dX8_behind_88 rfl (lv_at hl 4 rfl) ?_
                    refine lv_iload hx hb dX8_behind_89 (lv_at hl 0 rfl) ?_
                    refine zc_V (As := [.int p_, .int i_80]) (rest := []) ⟨hx, hb, hml, hown, hts⟩ (c_M_ways l D cI cJ cZ cP cS po m0 mrf mki mpa mta mla msl mco mhe mso msi msh mce mca mwo mnu mte mwa mke mma mth mtr (npu) (nte) (nat_) (nde) (nto) (nse) (nhu) (nga) (nsd) (nfa) (nba) (npl) (nen) (nnu) (nwr) (nra) (nik) gki gpa (p_) (i_80) hy0 hy1 hy2 hy3 hy4 hy5 hy6 hy7 hy8 hy9 hy10 hy11 hy12 hy13 (by omega) (by omega) hp_gki hp_gpa) (cwV 2 hts gX8_behind_X8_ways rfl rfl rfl ⟨rfl, dh_X8_ways⟩ ⟨Nat.le_of_ble_eq_true rfl, Nat.le_of_ble_eq_true rfl⟩) hK hN (hZ.kept hS) hP (hP.sub [0, 5, 6] rfl) (va_recv (q := (RX8, TX8, 38)) hK hP (ci := 8) (q0 := 0) rfl rfl) rfl hl.1 rfl (Nat.le_of_ble_eq_true rfl) dX8_behind_91 ⟨Nat.le_of_ble_eq_true rfl, Nat.le_of_ble_eq_true rfl⟩ (fun r_63 hr_63 => ?_)
                    obtain ⟨g_64, g_65⟩ := hr_63
                    refine lv_istore (lv' := [(7, .int r_63), (6, .int i_80), (5, .int v_60), (0, .ref m0), (1, .int s_), (2, .int p_), (3, .int to)]) hx hb dX8_behind_94 hl (by decide) rfl (fun ls hl => ?_)
                    refine lv_aload_n hx hb dX8_behind_96 rfl (lv_at hl 3 rfl) ?_
                    refine lv_iload_n hx hb dX8_behind_97 rfl (lv_at hl 5 rfl) ?_
                    refine lv_iload hx hb dX8_behind_98 (lv_at hl 1 rfl) ?_
                    refine lv_iconst (v := 1) hx hb dX8_behind_100 (by decide) ?_
                    refine zc_V (As := [.int p_, .int i_80, .int 1]) (rest := []) ⟨hx, hb, hml, hown, hts⟩ (c_M_deep l D cI cJ cZ cP cS po m0 mrf mki mpa mta mla msl mco mhe mso msi msh mce mca mwo mnu mte mwa mke mma mth mtr (npu) (nte) (nat_) (nde) (nto) (nse) (nhu) (nga) (nsd) (nfa) (nba) (npl) (nen) (nnu) (nwr) (nra) (nik) gki gpa (p_) (i_80) (1) hy0 hy1 hy2 hy3 hy4 hy5 hy6 hy7 hy8 hy9 hy10 hy11 hy12 hy13 (by omega) (by omega) (by omega) (by omega) hp_gki hp_gpa) (cwV 3 hts gX8_behind_X8_deep rfl rfl rfl ⟨rfl, dh_X8_deep⟩ ⟨Nat.le_of_ble_eq_true rfl, Nat.le_of_ble_eq_true rfl⟩) hK hN (hZ.kept hS) hP (hP.sub [0, 5, 6] rfl) (va_recv (q := (RX8, TX8, 38)) hK hP (ci := 8) (q0 := 0) rfl rfl) rfl hl.1 rfl (Nat.le_of_ble_eq_true rfl) dX8_behind_101 ⟨Nat.le_of_ble_eq_true rfl, Nat.le_of_ble_eq_true rfl⟩ (fun r_66 hr_66 => ?_)
                    obtain ⟨g_67, g_68⟩ := hr_66
                    refine lv_iload_n hx hb dX8_behind_104 rfl (lv_at hl 6 rfl) ?_
                    refine lv_icmp_ne (tgt := 123) hx hb dX8_behind_105 (by decide) (fun c_69 => ?_) (fun c_69 => ?_)
                    · have fc_69 : r_66.toInt ≠ to.toInt := zf_ne c_69 rfl rfl
                      refine lv_aload_n hx hb dX8_behind_123 rfl (lv_at hl 3 rfl) ?_
                      refine lv_iload_n hx hb dX8_behind_124 rfl (lv_at hl 5 rfl) ?_
                      refine lv_iload hx hb dX8_behind_125 (lv_at hl 1 rfl) ?_
                      refine lv_iconst (v := 0) hx hb dX8_behind_127 (by decide) ?_
                      refine zc_V (As := [.int p_, .int i_80, .int 0]) (rest := []) ⟨hx, hb, hml, hown, hts⟩ (c_M_deep l D cI cJ cZ cP cS po m0 mrf mki mpa mta mla msl mco mhe mso msi msh mce mca mwo mnu mte mwa mke mma mth mtr (npu) (nte) (nat_) (nde) (nto) (nse) (nhu) (nga) (nsd) (nfa) (nba) (npl) (nen) (nnu) (nwr) (nra) (nik) gki gpa (p_) (i_80) (0) hy0 hy1 hy2 hy3 hy4 hy5 hy6 hy7 hy8 hy9 hy10 hy11 hy12 hy13 (by omega) (by omega) (by omega) (by omega) hp_gki hp_gpa) (cwV 3 hts gX8_behind_X8_deep rfl rfl rfl ⟨rfl, dh_X8_deep⟩ ⟨Nat.le_of_ble_eq_true rfl, Nat.le_of_ble_eq_true rfl⟩) hK hN (hZ.kept hS) hP (hP.sub [0, 5, 6] rfl) (va_recv (q := (RX8, TX8, 38)) hK hP (ci := 8) (q0 := 0) rfl rfl) rfl hl.1 rfl (Nat.le_of_ble_eq_true rfl) dX8_behind_128 ⟨Nat.le_of_ble_eq_true rfl, Nat.le_of_ble_eq_true rfl⟩ (fun r_70 hr_70 => ?_)
                      obtain ⟨g_71, g_72⟩ := hr_70
                      refine lv_iload_n hx hb dX8_behind_131 rfl (lv_at hl 6 rfl) ?_
                      refine lv_icmp_ne (tgt := 153) hx hb dX8_behind_132 (by decide) (fun c_73 => ?_) (fun c_73 => ?_)
                      · have fc_73 : r_70.toInt ≠ to.toInt := zf_ne c_73 rfl rfl
                        obtain ⟨x_74, ex_74⟩ : ∃ y : Int32, y = i_80 + 1 := ⟨_, rfl⟩
                        have qx_74 : x_74.toInt = i_80.toInt + 1 := by rw [ex_74]; exact zf_add rfl (by decide) (by omega) (by omega)
                        refine lv_iinc (v := x_74) (lv' := [(6, .int x_74), (7, .int r_63), (5, .int v_60), (0, .ref m0), (1, .int s_), (2, .int p_), (3, .int to)]) hx hb dX8_behind_153 hl (k := 1) rfl ex_74.symm (by decide) rfl (fun ls hl => ?_)
                        refine lv_goto (tgt := 80) hx hb dX8_behind_156 (by decide) ?_
                        exact ih x_74 v_60 _ _ _ (hP.sub [0, 1, 2, 3, 4, 5, 6] rfl) (hD.sub [0, 1, 2, 3, 4, 5, 6] (by decide) rfl) hS (lv_sub hl [0, 2, 3, 4, 5, 6] rfl) (dw_lo hloi_80 qx_74) (dw_hn hni_80 qx_74)
                      · have fc_73 : r_70.toInt = to.toInt := zf_eq c_73 rfl rfl
                        refine lv_iload hx hb dX8_behind_135 (lv_at hl 2 rfl) ?_
                        refine lv_bipush (v := 12) hx hb dX8_behind_137 (by decide) ?_
                        refine lv_iload hx hb dX8_behind_139 (lv_at hl 0 rfl) ?_
                        refine lv_isub hx hb dX8_behind_141 ?_
                        refine lv_topi (fun x_75 ex_75 => ?_)
                        have qx_75 : x_75.toInt = 12 - r_63.toInt := by rw [ex_75]; exact zf_sub (by decide) rfl (by omega) (by omega)
                        refine lv_aload_n hx hb dX8_behind_142 rfl (lv_at hl 3 rfl) ?_
                        refine lv_iload_n hx hb dX8_behind_143 rfl (lv_at hl 4 rfl) ?_
                        refine lv_iload hx hb dX8_behind_144 (lv_at hl 1 rfl) ?_
                        refine zc_V (As := [.int s_, .int i_80]) (rest := [.int x_75, .int v_60]) ⟨hx, hb, hml, hown, hts⟩ (c_M_intAt l D cI cJ cZ cP cS po m0 mrf mki mpa mta mla msl mco mhe mso msi msh mce mca mwo mnu mte mwa mke mma mth mtr (npu) (nte) (nat_) (nde) (nto) (nse) (nhu) (nga) (nsd) (nfa) (nba) (npl) (nen) (nnu) (nwr) (nra) (nik) gce (s_) (i_80) hy0 hy1 hy2 hy3 hy4 hy5 hy6 hy7 hy8 hy9 hy10 hy11 hy12 hy13 (by omega) (by omega) (by omega) (by omega)) (cwV 2 hts gX8_behind_X8_intAt rfl rfl rfl ⟨rfl, dh_X8_intAt⟩ ⟨Nat.le_of_ble_eq_true rfl, Nat.le_of_ble_eq_true rfl⟩) hK hN (hZ.kept hS) hP (hP.sub [0, 4] rfl) (va_recv (q := (RX8, TX8, 38)) hK hP (ci := 8) (q0 := 0) rfl rfl) rfl hl.1 rfl (Nat.le_of_ble_eq_true rfl) dX8_behind_146 ⟨Nat.le_of_ble_eq_true rfl, Nat.le_of_ble_eq_true rfl⟩ (fun r_76 hr_76 => ?_)
                        refine lv_imul hx hb dX8_behind_149 ?_
                        refine lv_topi (fun x_77 ex_77 => ?_)
                        refine lv_iadd hx hb dX8_behind_150 ?_
                        refine lv_topi (fun x_78 ex_78 => ?_)
                        refine lv_istore (lv' := [(5, .int x_78), (7, .int r_63), (6, .int i_80), (0, .ref m0), (1, .int s_), (2, .int p_), (3, .int to)]) hx hb dX8_behind_151 hl (by decide) rfl (fun ls hl => ?_)
                        obtain ⟨x_79, ex_79⟩ : ∃ y : Int32, y = i_80 + 1 := ⟨_, rfl⟩
                        have qx_79 : x_79.toInt = i_80.toInt + 1 := by rw [ex_79]; exact zf_add rfl (by decide) (by omega) (by omega)
                        refine lv_iinc (v := x_79) (lv' := [(6, .int x_79), (5, .int x_78), (7, .int r_63), (0, .ref m0), (1, .int s_), (2, .int p_), (3, .int to)]) hx hb dX8_behind_153 hl (k := 2) rfl ex_79.symm (by decide) rfl (fun ls hl => ?_)
                        refine lv_goto (tgt := 80) hx hb dX8_behind_156 (by decide) ?_
                        exact ih x_79 x_78 _ _ _ (hP.sub [0, 1, 2, 3, 4, 5, 6] rfl) (hD.sub [0, 1, 2, 3, 4, 5, 6] (by decide) rfl) hS (lv_sub hl [0, 1, 3, 4, 5, 6] rfl) (dw_lo hloi_80 qx_79) (dw_hn hni_80 qx_79)
                    · have fc_69 : r_66.toInt = to.toInt := zf_eq c_69 rfl rfl
                      refine lv_iload hx hb dX8_behind_108 (lv_at hl 2 rfl) ?_
                      refine lv_iload hx hb dX8_behind_110 (lv_at hl 0 rfl) ?_
                      refine lv_aload_n hx hb dX8_behind_112 rfl (lv_at hl 3 rfl) ?_
                      refine lv_iload_n hx hb dX8_behind_113 rfl (lv_at hl 4 rfl) ?_
                      refine lv_iload hx hb dX8_behind_114 (lv_at hl 1 rfl) ?_
                      refine zc_V (As := [.int s_, .int i_80]) (rest := [.int r_63, .int v_60]) ⟨hx, hb, hml, hown, hts⟩ (c_M_intAt l D cI cJ cZ cP cS po m0 mrf mki mpa mta mla msl mco mhe mso msi msh mce mca mwo mnu mte mwa mke mma mth mtr (npu) (nte) (nat_) (nde) (nto) (nse) (nhu) (nga) (nsd) (nfa) (nba) (npl) (nen) (nnu) (nwr) (nra) (nik) gce (s_) (i_80) hy0 hy1 hy2 hy3 hy4 hy5 hy6 hy7 hy8 hy9 hy10 hy11 hy12 hy13 (by omega) (by omega) (by omega) (by omega)) (cwV 2 hts gX8_behind_X8_intAt rfl rfl rfl ⟨rfl, dh_X8_intAt⟩ ⟨Nat.le_of_ble_eq_true rfl, Nat.le_of_ble_eq_true rfl⟩) hK hN (hZ.kept hS) hP (hP.sub [0, 4] rfl) (va_recv (q := (RX8, TX8, 38)) hK hP (ci := 8) (q0 := 0) rfl rfl) rfl hl.1 rfl (Nat.le_of_ble_eq_true rfl) dX8_behind_116 ⟨Nat.le_of_ble_eq_true rfl, Nat.le_of_ble_eq_true rfl⟩ (fun r_80 hr_80 => ?_)
                      refine lv_imul hx hb dX8_behind_119 ?_
                      refine lv_topi (fun x_81 ex_81 => ?_)
                      refine lv_iadd hx hb dX8_behind_120 ?_
                      refine lv_topi (fun x_82 ex_82 => ?_)
                      refine lv_istore (lv' := [(5, .int x_82), (7, .int r_63), (6, .int i_80), (0, .ref m0), (1, .int s_), (2, .int p_), (3, .int to)]) hx hb dX8_behind_121 hl (by decide) rfl (fun ls hl => ?_)
                      refine lv_aload_n hx hb dX8_behind_123 rfl (lv_at hl 3 rfl) ?_
                      refine lv_iload_n hx hb dX8_behind_124 rfl (lv_at hl 5 rfl) ?_
                      refine lv_iload hx hb dX8_behind_125 (lv_at hl 2 rfl) ?_
                      refine lv_iconst (v := 0) hx hb dX8_behind_127 (by decide) ?_
                      refine zc_V (As := [.int p_, .int i_80, .int 0]) (rest := []) ⟨hx, hb, hml, hown, hts⟩ (c_M_deep l D cI cJ cZ cP cS po m0 mrf mki mpa mta mla msl mco mhe mso msi msh mce mca mwo mnu mte mwa mke mma mth mtr (npu) (nte) (nat_) (nde) (nto) (nse) (nhu) (nga) (nsd) (nfa) (nba) (npl) (nen) (nnu) (nwr) (nra) (nik) gki gpa (p_) (i_80) (0) hy0 hy1 hy2 hy3 hy4 hy5 hy6 hy7 hy8 hy9 hy10 hy11 hy12 hy13 (by omega) (by omega) (by omega) (by omega) hp_gki hp_gpa) (cwV 3 hts gX8_behind_X8_deep rfl rfl rfl ⟨rfl, dh_X8_deep⟩ ⟨Nat.le_of_ble_eq_true rfl, Nat.le_of_ble_eq_true rfl⟩) hK hN (hZ.kept hS) hP (hP.sub [0, 5, 6] rfl) (va_recv (q := (RX8, TX8, 38)) hK hP (ci := 8) (q0 := 0) rfl rfl) rfl hl.1 rfl (Nat.le_of_ble_eq_true rfl) dX8_behind_128 ⟨Nat.le_of_ble_eq_true rfl, Nat.le_of_ble_eq_true rfl⟩ (fun r_83 hr_83 => ?_)
                      obtain ⟨g_84, g_85⟩ := hr_83
                      refine lv_iload_n hx hb dX8_behind_131 rfl (lv_at hl 6 rfl) ?_
                      refine lv_icmp_ne (tgt := 153) hx hb dX8_behind_132 (by decide) (fun c_86 => ?_) (fun c_86 => ?_)
                      · have fc_86 : r_83.toInt ≠ to.toInt := zf_ne c_86 rfl rfl
                        obtain ⟨x_87, ex_87⟩ : ∃ y : Int32, y = i_80 + 1 := ⟨_, rfl⟩
                        have qx_87 : x_87.toInt = i_80.toInt + 1 := by rw [ex_87]; exact zf_add rfl (by decide) (by omega) (by omega)
                        refine lv_iinc (v := x_87) (lv' := [(6, .int x_87), (5, .int x_82), (7, .int r_63), (0, .ref m0), (1, .int s_), (2, .int p_), (3, .int to)]) hx hb dX8_behind_153 hl (k := 2) rfl ex_87.symm (by decide) rfl (fun ls hl => ?_)
                        refine lv_goto (tgt := 80) hx hb dX8_behind_156 (by decide) ?_
                        exact ih x_87 x_82 _ _ _ (hP.sub [0, 1, 2, 3, 4, 5, 6] rfl) (hD.sub [0, 1, 2, 3, 4, 5, 6] (by decide) rfl) hS (lv_sub hl [0, 1, 3, 4, 5, 6] rfl) (dw_lo hloi_80 qx_87) (dw_hn hni_80 qx_87)
                      · have fc_86 : r_83.toInt = to.toInt := zf_eq c_86 rfl rfl
                        refine lv_iload hx hb dX8_behind_135 (lv_at hl 0 rfl) ?_
                        refine lv_bipush (v := 12) hx hb dX8_behind_137 (by decide) ?_
                        refine lv_iload hx hb dX8_behind_139 (lv_at hl 1 rfl) ?_
                        refine lv_isub hx hb dX8_behind_141 ?_
                        refine lv_topi (fun x_88 ex_88 => ?_)
                        have qx_88 : x_88.toInt = 12 - r_63.toInt := by rw [ex_88]; exact zf_sub (by decide) rfl (by omega) (by omega)
                        refine lv_aload_n hx hb dX8_behind_142 rfl (lv_at hl 3 rfl) ?_
                        refine lv_iload_n hx hb dX8_behind_143 rfl (lv_at hl 4 rfl) ?_
                        refine lv_iload hx hb dX8_behind_144 (lv_at hl 2 rfl) ?_
                        refine zc_V (As := [.int s_, .int i_80]) (rest := [.int x_88, .int x_82]) ⟨hx, hb, hml, hown, hts⟩ (c_M_intAt l D cI cJ cZ cP cS po m0 mrf mki mpa mta mla msl mco mhe mso msi msh mce mca mwo mnu mte mwa mke mma mth mtr (npu) (nte) (nat_) (nde) (nto) (nse) (nhu) (nga) (nsd) (nfa) (nba) (npl) (nen) (nnu) (nwr) (nra) (nik) gce (s_) (i_80) hy0 hy1 hy2 hy3 hy4 hy5 hy6 hy7 hy8 hy9 hy10 hy11 hy12 hy13 (by omega) (by omega) (by omega) (by omega)) (cwV 2 hts gX8_behind_X8_intAt rfl rfl rfl ⟨rfl, dh_X8_intAt⟩ ⟨Nat.le_of_ble_eq_true rfl, Nat.le_of_ble_eq_true rfl⟩) hK hN (hZ.kept hS) hP (hP.sub [0, 4] rfl) (va_recv (q := (RX8, TX8, 38)) hK hP (ci := 8) (q0 := 0) rfl rfl) rfl hl.1 rfl (Nat.le_of_ble_eq_true rfl) dX8_behind_146 ⟨Nat.le_of_ble_eq_true rfl, Nat.le_of_ble_eq_true rfl⟩ (fun r_89 hr_89 => ?_)
                        refine lv_imul hx hb dX8_behind_149 ?_
                        refine lv_topi (fun x_90 ex_90 => ?_)
                        refine lv_iadd hx hb dX8_behind_150 ?_
                        refine lv_topi (fun x_91 ex_91 => ?_)
                        refine lv_istore (lv' := [(5, .int x_91), (7, .int r_63), (6, .int i_80), (0, .ref m0), (1, .int s_), (2, .int p_), (3, .int to)]) hx hb dX8_behind_151 hl (by decide) rfl (fun ls hl => ?_)
                        obtain ⟨x_92, ex_92⟩ : ∃ y : Int32, y = i_80 + 1 := ⟨_, rfl⟩
                        have qx_92 : x_92.toInt = i_80.toInt + 1 := by rw [ex_92]; exact zf_add rfl (by decide) (by omega) (by omega)
                        refine lv_iinc (v := x_92) (lv' := [(6, .int x_92), (5, .int x_91), (7, .int r_63), (0, .ref m0), (1, .int s_), (2, .int p_), (3, .int to)]) hx hb dX8_behind_153 hl (k := 2) rfl ex_92.symm (by decide) rfl (fun ls hl => ?_)
                        refine lv_goto (tgt := 80) hx hb dX8_behind_156 (by decide) ?_
                        exact ih x_92 x_91 _ _ _ (hP.sub [0, 1, 2, 3, 4, 5, 6] rfl) (hD.sub [0, 1, 2, 3, 4, 5, 6] (by decide) rfl) hS (lv_sub hl [0, 1, 3, 4, 5, 6] rfl) (dw_lo hloi_80 qx_92) (dw_hn hni_80 qx_92)
            · exfalso; have fc_23 : r_8.toInt ≠ 0 := zf_ne c_23 rfl (by decide); omega
          · have fc_22 : 24 < to.toInt := zf_nle c_22 rfl (by decide)
            refine lv_bipush (v := (-6)) hx hb dX8_behind_42 (by decide) ?_
            refine lv_istore (lv' := [(4, .int (-6)), (0, .ref m0), (1, .int s_), (2, .int p_), (3, .int to)]) hx hb dX8_behind_44 hl (by decide) rfl (fun ls hl => ?_)
            refine lv_iload hx hb dX8_behind_46 (lv_at hl 0 rfl) ?_
            refine lv_if_eq (tgt := 58) hx hb dX8_behind_48 (by decide) (fun c_93 => ?_) (fun c_93 => ?_)
            · exact absurd c_93 (by decide)
            · refine lv_aload_n hx hb dX8_behind_51 rfl (lv_at hl 1 rfl) ?_
              refine lv_iload hx hb dX8_behind_52 (lv_at hl 0 rfl) ?_
              skip
              refine zw_V (As := [.int (-6)]) (rest := []) (wr := [(mhe, .inl (cI, 8, .inl ghe)), (msi, .inl (cI, 8, .inl gsi)), (mce, .inl (cJ, 1280, .inr (.inl gce))), (mki, .inl (cI, 8, .inl gki)), (mpa, .inl (cI, 8, .inl gpa))]) ⟨hx, hb, hml, hown, hts⟩ (c_M_no_6 l D cI cJ cZ cP cS po m0 mrf mki mpa mta mla msl mco mhe mso msi msh mce mca mwo mnu mte mwa mke mma mth mtr (npu) (nte) (nat_) (nde) (nto) (nse) (nhu) (nga) (nsd) (nfa) (nba) (npl) (nen) (nnu) (nwr) (nra) (nik) grf hy0 hy1 hy2 hy3 hy4 hy5 hy6 hy7 hy8 hy9 hy10 hy11 hy12 hy13 H.size) (cwV 1 hts gX8_behind_X8_no rfl rfl rfl ⟨rfl, dh_X8_no⟩ ⟨Nat.le_of_ble_eq_true rfl, Nat.le_of_ble_eq_true rfl⟩) hK hN (hZ.kept hS) hP hD hS hA [0, 1] [2, 3, 4, 5, 6] rfl rfl (by decide) (by decide) (by decide) (va_recv (q := (RX8, TX8, 38)) hK hP (ci := 8) (q0 := 0) rfl rfl) rfl hl.1 rfl (Nat.le_of_ble_eq_true rfl) dX8_behind_54 ⟨Nat.le_of_ble_eq_true rfl, Nat.le_of_ble_eq_true rfl⟩ (fun r_94 u_95 H locs hr_94 hP hD hS => ?_)
              obtain ⟨q_96, rfl⟩ : ∃ z, z = u_95 := ⟨_, rfl⟩
              have h9R := zRe (ws' := [(mhe, .inl (cI, 8, .inl ghe)), (msi, .inl (cI, 8, .inl gsi)), (mce, .inl (cJ, 1280, .inr (.inl gce))), (mki, .inl (cI, 8, .inl gki)), (mpa, .inl (cI, 8, .inl gpa)), (zMO m0 npu nte nat_ nde nto nse nhu nga nsd nfa mrf mki mpa mta mla msl mco mhe mso msi msh mce mca mwo mnu mte nba npl nen nnu nwr mwa mke mma mth mtr nra nik), (mrf, .inl (cI, 8, .inl q_96))]) hP hD rfl
              clear hP hD
              obtain ⟨hP, hD⟩ := h9R
              obtain rfl := hr_94
              exact W.iret (v := (-6)) hx hb hr (fun t ht hW => ⟨⟨(-6), q_96, rfl, trivial, zRet ht hP hD [5, 6, 0, 1, 2, 3, 4] (by decide) rfl⟩, hS.F ht⟩) hS.2.2 dX8_behind_57
    · exact absurd c_7 (by decide)
  · refine lv_if_eq (tgt := 20) hx hb dX8_behind_5 (by decide) (fun c_97 => ?_) (fun c_97 => ?_)
    · refine lv_aload_n hx hb dX8_behind_20 rfl (lv_at hl 0 rfl) ?_
      refine lv_iload_n hx hb dX8_behind_21 rfl (lv_at hl 1 rfl) ?_
      refine zc_V (As := [.int s_]) (rest := []) ⟨hx, hb, hml, hown, hts⟩ (c_M_barsOf l D cI cJ cZ cP cS po m0 mrf mki mpa mta mla msl mco mhe mso msi msh mce mca mwo mnu mte mwa mke mma mth mtr (npu) (nte) (nat_) (nde) (nto) (nse) (nhu) (nga) (nsd) (nfa) (nba) (npl) (nen) (nnu) (nwr) (nra) (nik) ghe gsi gce (s_) hy0 hy1 hy2 hy3 hy4 hy5 hy6 hy7 hy8 hy9 hy10 hy11 hy12 hy13 hp_ghe hp_gsi) (cwV 1 hts gX8_behind_X8_barsOf rfl rfl rfl ⟨rfl, dh_X8_barsOf⟩ ⟨Nat.le_of_ble_eq_true rfl, Nat.le_of_ble_eq_true rfl⟩) hK hN (hZ.kept hS) hP (hP.sub [0, 2, 3, 4] rfl) (va_recv (q := (RX8, TX8, 38)) hK hP (ci := 8) (q0 := 0) rfl rfl) rfl hl.1 rfl (Nat.le_of_ble_eq_true rfl) dX8_behind_22 ⟨Nat.le_of_ble_eq_true rfl, Nat.le_of_ble_eq_true rfl⟩ (fun r_98 hr_98 => ?_)
      obtain ⟨g_99, g_100, hsr_98_0⟩ := hr_98
      refine lv_istore (lv' := [(4, .int r_98), (0, .ref m0), (1, .int s_), (2, .int p_), (3, .int to)]) hx hb dX8_behind_25 hl (by decide) rfl (fun ls hl => ?_)
      refine lv_iload hx hb dX8_behind_27 (lv_at hl 0 rfl) ?_
      refine lv_if_ne (tgt := 46) hx hb dX8_behind_29 (by decide) (fun c_101 => ?_) (fun c_101 => ?_)
      · have fc_101 : r_98.toInt ≠ 0 := zf_ne c_101 rfl (by decide)
        refine lv_iload hx hb dX8_behind_46 (lv_at hl 0 rfl) ?_
        refine lv_if_eq (tgt := 58) hx hb dX8_behind_48 (by decide) (fun c_102 => ?_) (fun c_102 => ?_)
        · exfalso; have fc_102 : r_98.toInt = 0 := zf_eq c_102 rfl (by decide); omega
        · have fc_102 : r_98.toInt ≠ 0 := zf_ne c_102 rfl (by decide)
          refine lv_aload_n hx hb dX8_behind_51 rfl (lv_at hl 1 rfl) ?_
          refine lv_iload hx hb dX8_behind_52 (lv_at hl 0 rfl) ?_
          skip
          refine zw_V (As := [.int r_98]) (rest := []) (wr := [(mhe, .inl (cI, 8, .inl ghe)), (msi, .inl (cI, 8, .inl gsi)), (mce, .inl (cJ, 1280, .inr (.inl gce))), (mki, .inl (cI, 8, .inl gki)), (mpa, .inl (cI, 8, .inl gpa))]) ⟨hx, hb, hml, hown, hts⟩ (c_M_no l D cI cJ cZ cP cS po m0 mrf mki mpa mta mla msl mco mhe mso msi msh mce mca mwo mnu mte mwa mke mma mth mtr (npu) (nte) (nat_) (nde) (nto) (nse) (nhu) (nga) (nsd) (nfa) (nba) (npl) (nen) (nnu) (nwr) (nra) (nik) grf (r_98) hy0 hy1 hy2 hy3 hy4 hy5 hy6 hy7 hy8 hy9 hy10 hy11 hy12 hy13 (by omega) (by omega) H.size) (cwV 1 hts gX8_behind_X8_no rfl rfl rfl ⟨rfl, dh_X8_no⟩ ⟨Nat.le_of_ble_eq_true rfl, Nat.le_of_ble_eq_true rfl⟩) hK hN (hZ.kept hS) hP hD hS hA [0, 1] [2, 3, 4, 5, 6] rfl rfl (by decide) (by decide) (by decide) (va_recv (q := (RX8, TX8, 38)) hK hP (ci := 8) (q0 := 0) rfl rfl) rfl hl.1 rfl (Nat.le_of_ble_eq_true rfl) dX8_behind_54 ⟨Nat.le_of_ble_eq_true rfl, Nat.le_of_ble_eq_true rfl⟩ (fun r_103 u_104 H locs hr_103 hP hD hS => ?_)
          obtain ⟨q_105, rfl⟩ : ∃ z, z = u_104 := ⟨_, rfl⟩
          have h9R := zRe (ws' := [(mhe, .inl (cI, 8, .inl ghe)), (msi, .inl (cI, 8, .inl gsi)), (mce, .inl (cJ, 1280, .inr (.inl gce))), (mki, .inl (cI, 8, .inl gki)), (mpa, .inl (cI, 8, .inl gpa)), (zMO m0 npu nte nat_ nde nto nse nhu nga nsd nfa mrf mki mpa mta mla msl mco mhe mso msi msh mce mca mwo mnu mte nba npl nen nnu nwr mwa mke mma mth mtr nra nik), (mrf, .inl (cI, 8, .inl q_105))]) hP hD rfl
          clear hP hD
          obtain ⟨hP, hD⟩ := h9R
          have w_106 := hr_103
          obtain rfl : r_98 = r_103 := w_106.symm
          exact W.iret (v := r_98) hx hb hr (fun t ht hW => ⟨⟨r_98, q_105, rfl, trivial, zRet ht hP hD [5, 6, 0, 1, 2, 3, 4] (by decide) rfl⟩, hS.F ht⟩) hS.2.2 dX8_behind_57
      · have fc_101 : r_98.toInt = 0 := zf_eq c_101 rfl (by decide)
        refine lv_iload_n hx hb dX8_behind_32 rfl (lv_at hl 4 rfl) ?_
        refine lv_if_lt (tgt := 42) hx hb dX8_behind_33 (by decide) (fun c_107 => ?_) (fun c_107 => ?_)
        · have fc_107 : to.toInt < 0 := zf_lt c_107 rfl (by decide)
          refine lv_bipush (v := (-6)) hx hb dX8_behind_42 (by decide) ?_
          refine lv_istore (lv' := [(4, .int (-6)), (0, .ref m0), (1, .int s_), (2, .int p_), (3, .int to)]) hx hb dX8_behind_44 hl (by decide) rfl (fun ls hl => ?_)
          refine lv_iload hx hb dX8_behind_46 (lv_at hl 0 rfl) ?_
          refine lv_if_eq (tgt := 58) hx hb dX8_behind_48 (by decide) (fun c_108 => ?_) (fun c_108 => ?_)
          · exact absurd c_108 (by decide)
          · refine lv_aload_n hx hb dX8_behind_51 rfl (lv_at hl 1 rfl) ?_
            refine lv_iload hx hb dX8_behind_52 (lv_at hl 0 rfl) ?_
            skip
            refine zw_V (As := [.int (-6)]) (rest := []) (wr := [(mhe, .inl (cI, 8, .inl ghe)), (msi, .inl (cI, 8, .inl gsi)), (mce, .inl (cJ, 1280, .inr (.inl gce))), (mki, .inl (cI, 8, .inl gki)), (mpa, .inl (cI, 8, .inl gpa))]) ⟨hx, hb, hml, hown, hts⟩ (c_M_no_6 l D cI cJ cZ cP cS po m0 mrf mki mpa mta mla msl mco mhe mso msi msh mce mca mwo mnu mte mwa mke mma mth mtr (npu) (nte) (nat_) (nde) (nto) (nse) (nhu) (nga) (nsd) (nfa) (nba) (npl) (nen) (nnu) (nwr) (nra) (nik) grf hy0 hy1 hy2 hy3 hy4 hy5 hy6 hy7 hy8 hy9 hy10 hy11 hy12 hy13 H.size) (cwV 1 hts gX8_behind_X8_no rfl rfl rfl ⟨rfl, dh_X8_no⟩ ⟨Nat.le_of_ble_eq_true rfl, Nat.le_of_ble_eq_true rfl⟩) hK hN (hZ.kept hS) hP hD hS hA [0, 1] [2, 3, 4, 5, 6] rfl rfl (by decide) (by decide) (by decide) (va_recv (q := (RX8, TX8, 38)) hK hP (ci := 8) (q0 := 0) rfl rfl) rfl hl.1 rfl (Nat.le_of_ble_eq_true rfl) dX8_behind_54 ⟨Nat.le_of_ble_eq_true rfl, Nat.le_of_ble_eq_true rfl⟩ (fun r_109 u_110 H locs hr_109 hP hD hS => ?_)
            obtain ⟨q_111, rfl⟩ : ∃ z, z = u_110 := ⟨_, rfl⟩
            have h9R := zRe (ws' := [(mhe, .inl (cI, 8, .inl ghe)), (msi, .inl (cI, 8, .inl gsi)), (mce, .inl (cJ, 1280, .inr (.inl gce))), (mki, .inl (cI, 8, .inl gki)), (mpa, .inl (cI, 8, .inl gpa)), (zMO m0 npu nte nat_ nde nto nse nhu nga nsd nfa mrf mki mpa mta mla msl mco mhe mso msi msh mce mca mwo mnu mte nba npl nen nnu nwr mwa mke mma mth mtr nra nik), (mrf, .inl (cI, 8, .inl q_111))]) hP hD rfl
            clear hP hD
            obtain ⟨hP, hD⟩ := h9R
            obtain rfl := hr_109
            exact W.iret (v := (-6)) hx hb hr (fun t ht hW => ⟨⟨(-6), q_111, rfl, trivial, zRet ht hP hD [5, 6, 0, 1, 2, 3, 4] (by decide) rfl⟩, hS.F ht⟩) hS.2.2 dX8_behind_57
        · have fc_107 : 0 ≤ to.toInt := zf_nlt c_107 rfl (by decide)
          refine lv_iload_n hx hb dX8_behind_36 rfl (lv_at hl 4 rfl) ?_
          refine lv_bipush (v := 24) hx hb dX8_behind_37 (by decide) ?_
          refine lv_icmp_le (tgt := 46) hx hb dX8_behind_39 (by decide) (fun c_112 => ?_) (fun c_112 => ?_)
          · have fc_112 : to.toInt ≤ 24 := zf_le c_112 rfl (by decide)
            refine lv_iload hx hb dX8_behind_46 (lv_at hl 0 rfl) ?_
            refine lv_if_eq (tgt := 58) hx hb dX8_behind_48 (by decide) (fun c_113 => ?_) (fun c_113 => ?_)
            · have fc_113 : r_98.toInt = 0 := zf_eq c_113 rfl (by decide)
              refine lv_iload_n hx hb dX8_behind_58 rfl (lv_at hl 4 rfl) ?_
              refine lv_if_ne (tgt := 74) hx hb dX8_behind_59 (by decide) (fun c_114 => ?_) (fun c_114 => ?_)
              · have fc_114 : to.toInt ≠ 0 := zf_ne c_114 rfl (by decide)
                refine lv_iconst (v := 0) hx hb dX8_behind_74 (by decide) ?_
                refine lv_istore (lv' := [(5, .int 0), (4, .int r_98), (0, .ref m0), (1, .int s_), (2, .int p_), (3, .int to)]) hx hb dX8_behind_75 hl (by decide) rfl (fun ls hl => ?_)
                refine lv_iconst (v := 1) hx hb dX8_behind_77 (by decide) ?_
                refine lv_istore (lv' := [(6, .int 1), (5, .int 0), (4, .int r_98), (0, .ref m0), (1, .int s_), (2, .int p_), (3, .int to)]) hx hb dX8_behind_78 hl (by decide) rfl (fun ls hl => ?_)
                obtain ⟨i_80, hi_80⟩ : ∃ i : Int32, i = 1 := ⟨_, rfl⟩
                replace hl : lv_has ls 8 [(6, .int i_80), (5, .int 0), (0, .ref m0), (1, .int s_), (2, .int p_), (3, .int to)] := by rw [hi_80]; exact lv_sub hl [0, 1, 3, 4, 5, 6] rfl
                have h1i_80 : i_80.toInt = 1 := by rw [hi_80]; decide
                obtain ⟨nfu, hni_80⟩ : ∃ nq9 : Nat, 25 ≤ i_80.toInt + (nq9 : Int) := ⟨((25 : Int) - 1).toNat, by omega⟩
                have hloi_80 : 1 ≤ i_80.toInt := by omega
                obtain ⟨v_115, hv_115⟩ : ∃ g : Int32, g = 0 := ⟨_, rfl⟩
                replace hl : lv_has ls 8 [(6, .int i_80), (5, .int v_115), (0, .ref m0), (1, .int s_), (2, .int p_), (3, .int to)] := by rw [hv_115]; exact hl
                clear h1i_80 hi_80 hv_115
                skip
                revert hni_80
                revert hloi_80
                revert hl
                revert hS
                revert hD
                revert hP
                revert ls
                revert locs
                revert H
                revert v_115
                revert i_80
                induction nfu with
                | zero =>
                  intro i_80 v_115 H locs ls hP hD hS hl hloi_80 hni_80
                  have hzi_80 : 25 ≤ i_80.toInt := by omega
                  refine lv_iload hx hb dX8_behind_80 (lv_at hl 0 rfl) ?_
                  refine lv_bipush (v := 24) hx hb dX8_behind_82 (by decide) ?_
                  refine lv_icmp_gt (tgt := 159) hx hb dX8_behind_84 (by decide) (fun c_116 => ?_) (fun c_116 => ?_)
                  · have fc_116 : 24 < i_80.toInt := zf_lt c_116 (by decide) rfl
                    refine lv_iload hx hb dX8_behind_159 (lv_at hl 1 rfl) ?_
                    exact W.iret (v := v_115) hx hb hr (fun t ht hW => ⟨⟨v_115, grf, rfl, trivial, zRet ht hP hD [0, 1, 2, 3, 4, 5, 6] (by decide) rfl⟩, hS.F ht⟩) hS.2.2 dX8_behind_161
                  · exfalso; have fc_116 : i_80.toInt ≤ 24 := zf_nlt c_116 (by decide) rfl; omega
                | succ nfu ih =>
                  intro i_80 v_115 H locs ls hP hD hS hl hloi_80 hni_80
                  refine lv_iload hx hb dX8_behind_80 (lv_at hl 0 rfl) ?_
                  refine lv_bipush (v := 24) hx hb dX8_behind_82 (by decide) ?_
                  refine lv_icmp_gt (tgt := 159) hx hb dX8_behind_84 (by decide) (fun c_117 => ?_) (fun c_117 => ?_)
                  · have fc_117 : 24 < i_80.toInt := zf_lt c_117 (by decide) rfl
                    refine lv_iload hx hb dX8_behind_159 (lv_at hl 1 rfl) ?_
                    exact W.iret (v := v_115) hx hb hr (fun t ht hW => ⟨⟨v_115, grf, rfl, trivial, zRet ht hP hD [0, 1, 2, 3, 4, 5, 6] (by decide) rfl⟩, hS.F ht⟩) hS.2.2 dX8_behind_161
                  · have fc_117 : i_80.toInt ≤ 24 := zf_nlt c_117 (by decide) rfl
                    refine lv_aload_n hx hb dX8_behind_87 rfl (lv_at hl 2 rfl) ?_
                    refine lv_iload_n hx hb dX8_behind_88 rfl (lv_at hl 4 rfl) ?_
                    refine lv_iload hx hb dX8_behind_89 (lv_at hl 0 rfl) ?_
                    refine zc_V (As := [.int p_, .int i_80]) (rest := []) ⟨hx, hb, hml, hown, hts⟩ (c_M_ways l D cI cJ cZ cP cS po m0 mrf mki mpa mta mla msl mco mhe mso msi msh mce mca mwo mnu mte mwa mke mma mth mtr (npu) (nte) (nat_) (nde) (nto) (nse) (nhu) (nga) (nsd) (nfa) (nba) (npl) (nen) (nnu) (nwr) (nra) (nik) gki gpa (p_) (i_80) hy0 hy1 hy2 hy3 hy4 hy5 hy6 hy7 hy8 hy9 hy10 hy11 hy12 hy13 (by omega) (by omega) hp_gki hp_gpa) (cwV 2 hts gX8_behind_X8_ways rfl rfl rfl ⟨rfl, dh_X8_ways⟩ ⟨Nat.le_of_ble_eq_true rfl, Nat.le_of_ble_eq_true rfl⟩) hK hN (hZ.kept hS) hP (hP.sub [0, 5, 6] rfl) (va_recv (q := (RX8, TX8, 38)) hK hP (ci := 8) (q0 := 0) rfl rfl) rfl hl.1 rfl (Nat.le_of_ble_eq_true rfl) dX8_behind_91 ⟨Nat.le_of_ble_eq_true rfl, Nat.le_of_ble_eq_true rfl⟩ (fun r_118 hr_118 => ?_)
                    obtain ⟨g_119, g_120⟩ := hr_118
                    refine lv_istore (lv' := [(7, .int r_118), (6, .int i_80), (5, .int v_115), (0, .ref m0), (1, .int s_), (2, .int p_), (3, .int to)]) hx hb dX8_behind_94 hl (by decide) rfl (fun ls hl => ?_)
                    refine lv_aload_n hx hb dX8_behind_96 rfl (lv_at hl 3 rfl) ?_
                    refine lv_iload_n hx hb dX8_behind_97 rfl (lv_at hl 5 rfl) ?_
                    refine lv_iload hx hb dX8_behind_98 (lv_at hl 1 rfl) ?_
                    refine lv_iconst (v := 1) hx hb dX8_behind_100 (by decide) ?_
                    refine zc_V (As := [.int p_, .int i_80, .int 1]) (rest := []) ⟨hx, hb, hml, hown, hts⟩ (c_M_deep l D cI cJ cZ cP cS po m0 mrf mki mpa mta mla msl mco mhe mso msi msh mce mca mwo mnu mte mwa mke mma mth mtr (npu) (nte) (nat_) (nde) (nto) (nse) (nhu) (nga) (nsd) (nfa) (nba) (npl) (nen) (nnu) (nwr) (nra) (nik) gki gpa (p_) (i_80) (1) hy0 hy1 hy2 hy3 hy4 hy5 hy6 hy7 hy8 hy9 hy10 hy11 hy12 hy13 (by omega) (by omega) (by omega) (by omega) hp_gki hp_gpa) (cwV 3 hts gX8_behind_X8_deep rfl rfl rfl ⟨rfl, dh_X8_deep⟩ ⟨Nat.le_of_ble_eq_true rfl, Nat.le_of_ble_eq_true rfl⟩) hK hN (hZ.kept hS) hP (hP.sub [0, 5, 6] rfl) (va_recv (q := (RX8, TX8, 38)) hK hP (ci := 8) (q0 := 0) rfl rfl) rfl hl.1 rfl (Nat.le_of_ble_eq_true rfl) dX8_behind_101 ⟨Nat.le_of_ble_eq_true rfl, Nat.le_of_ble_eq_true rfl⟩ (fun r_121 hr_121 => ?_)
                    obtain ⟨g_122, g_123⟩ := hr_121
                    refine lv_iload_n hx hb dX8_behind_104 rfl (lv_at hl 6 rfl) ?_
                    refine lv_icmp_ne (tgt := 123) hx hb dX8_behind_105 (by decide) (fun c_124 => ?_) (fun c_124 => ?_)
                    · have fc_124 : r_121.toInt ≠ to.toInt := zf_ne c_124 rfl rfl
                      refine lv_aload_n hx hb dX8_behind_123 rfl (lv_at hl 3 rfl) ?_
                      refine lv_iload_n hx hb dX8_behind_124 rfl (lv_at hl 5 rfl) ?_
                      refine lv_iload hx hb dX8_behind_125 (lv_at hl 1 rfl) ?_
                      refine lv_iconst (v := 0) hx hb dX8_behind_127 (by decide) ?_
                      refine zc_V (As := [.int p_, .int i_80, .int 0]) (rest := []) ⟨hx, hb, hml, hown, hts⟩ (c_M_deep l D cI cJ cZ cP cS po m0 mrf mki mpa mta mla msl mco mhe mso msi msh mce mca mwo mnu mte mwa mke mma mth mtr (npu) (nte) (nat_) (nde) (nto) (nse) (nhu) (nga) (nsd) (nfa) (nba) (npl) (nen) (nnu) (nwr) (nra) (nik) gki gpa (p_) (i_80) (0) hy0 hy1 hy2 hy3 hy4 hy5 hy6 hy7 hy8 hy9 hy10 hy11 hy12 hy13 (by omega) (by omega) (by omega) (by omega) hp_gki hp_gpa) (cwV 3 hts gX8_behind_X8_deep rfl rfl rfl ⟨rfl, dh_X8_deep⟩ ⟨Nat.le_of_ble_eq_true rfl, Nat.le_of_ble_eq_true rfl⟩) hK hN (hZ.kept hS) hP (hP.sub [0, 5, 6] rfl) (va_recv (q := (RX8, TX8, 38)) hK hP (ci := 8) (q0 := 0) rfl rfl) rfl hl.1 rfl (Nat.le_of_ble_eq_true rfl) dX8_behind_128 ⟨Nat.le_of_ble_eq_true rfl, Nat.le_of_ble_eq_true rfl⟩ (fun r_125 hr_125 => ?_)
                      obtain ⟨g_126, g_127⟩ := hr_125
                      refine lv_iload_n hx hb dX8_behind_131 rfl (lv_at hl 6 rfl) ?_
                      refine lv_icmp_ne (tgt := 153) hx hb dX8_behind_132 (by decide) (fun c_128 => ?_) (fun c_128 => ?_)
                      · have fc_128 : r_125.toInt ≠ to.toInt := zf_ne c_128 rfl rfl
                        obtain ⟨x_129, ex_129⟩ : ∃ y : Int32, y = i_80 + 1 := ⟨_, rfl⟩
                        have qx_129 : x_129.toInt = i_80.toInt + 1 := by rw [ex_129]; exact zf_add rfl (by decide) (by omega) (by omega)
                        refine lv_iinc (v := x_129) (lv' := [(6, .int x_129), (7, .int r_118), (5, .int v_115), (0, .ref m0), (1, .int s_), (2, .int p_), (3, .int to)]) hx hb dX8_behind_153 hl (k := 1) rfl ex_129.symm (by decide) rfl (fun ls hl => ?_)
                        refine lv_goto (tgt := 80) hx hb dX8_behind_156 (by decide) ?_
                        exact ih x_129 v_115 _ _ _ (hP.sub [0, 1, 2, 3, 4, 5, 6] rfl) (hD.sub [0, 1, 2, 3, 4, 5, 6] (by decide) rfl) hS (lv_sub hl [0, 2, 3, 4, 5, 6] rfl) (dw_lo hloi_80 qx_129) (dw_hn hni_80 qx_129)
                      · have fc_128 : r_125.toInt = to.toInt := zf_eq c_128 rfl rfl
                        refine lv_iload hx hb dX8_behind_135 (lv_at hl 2 rfl) ?_
                        refine lv_bipush (v := 12) hx hb dX8_behind_137 (by decide) ?_
                        refine lv_iload hx hb dX8_behind_139 (lv_at hl 0 rfl) ?_
                        refine lv_isub hx hb dX8_behind_141 ?_
                        refine lv_topi (fun x_130 ex_130 => ?_)
                        have qx_130 : x_130.toInt = 12 - r_118.toInt := by rw [ex_130]; exact zf_sub (by decide) rfl (by omega) (by omega)
                        refine lv_aload_n hx hb dX8_behind_142 rfl (lv_at hl 3 rfl) ?_
                        refine lv_iload_n hx hb dX8_behind_143 rfl (lv_at hl 4 rfl) ?_
                        refine lv_iload hx hb dX8_behind_144 (lv_at hl 1 rfl) ?_
                        refine zc_V (As := [.int s_, .int i_80]) (rest := [.int x_130, .int v_115]) ⟨hx, hb, hml, hown, hts⟩ (c_M_intAt l D cI cJ cZ cP cS po m0 mrf mki mpa mta mla msl mco mhe mso msi msh mce mca mwo mnu mte mwa mke mma mth mtr (npu) (nte) (nat_) (nde) (nto) (nse) (nhu) (nga) (nsd) (nfa) (nba) (npl) (nen) (nnu) (nwr) (nra) (nik) gce (s_) (i_80) hy0 hy1 hy2 hy3 hy4 hy5 hy6 hy7 hy8 hy9 hy10 hy11 hy12 hy13 (by omega) (by omega) (by omega) (by omega)) (cwV 2 hts gX8_behind_X8_intAt rfl rfl rfl ⟨rfl, dh_X8_intAt⟩ ⟨Nat.le_of_ble_eq_true rfl, Nat.le_of_ble_eq_true rfl⟩) hK hN (hZ.kept hS) hP (hP.sub [0, 4] rfl) (va_recv (q := (RX8, TX8, 38)) hK hP (ci := 8) (q0 := 0) rfl rfl) rfl hl.1 rfl (Nat.le_of_ble_eq_true rfl) dX8_behind_146 ⟨Nat.le_of_ble_eq_true rfl, Nat.le_of_ble_eq_true rfl⟩ (fun r_131 hr_131 => ?_)
                        refine lv_imul hx hb dX8_behind_149 ?_
                        refine lv_topi (fun x_132 ex_132 => ?_)
                        refine lv_iadd hx hb dX8_behind_150 ?_
                        refine lv_topi (fun x_133 ex_133 => ?_)
                        refine lv_istore (lv' := [(5, .int x_133), (7, .int r_118), (6, .int i_80), (0, .ref m0), (1, .int s_), (2, .int p_), (3, .int to)]) hx hb dX8_behind_151 hl (by decide) rfl (fun ls hl => ?_)
                        obtain ⟨x_134, ex_134⟩ : ∃ y : Int32, y = i_80 + 1 := ⟨_, rfl⟩
                        have qx_134 : x_134.toInt = i_80.toInt + 1 := by rw [ex_134]; exact zf_add rfl (by decide) (by omega) (by omega)
                        refine lv_iinc (v := x_134) (lv' := [(6, .int x_134), (5, .int x_133), (7, .int r_118), (0, .ref m0), (1, .int s_), (2, .int p_), (3, .int to)]) hx hb dX8_behind_153 hl (k := 2) rfl ex_134.symm (by decide) rfl (fun ls hl => ?_)
                        refine lv_goto (tgt := 80) hx hb dX8_behind_156 (by decide) ?_
                        exact ih x_134 x_133 _ _ _ (hP.sub [0, 1, 2, 3, 4, 5, 6] rfl) (hD.sub [0, 1, 2, 3, 4, 5, 6] (by decide) rfl) hS (lv_sub hl [0, 1, 3, 4, 5, 6] rfl) (dw_lo hloi_80 qx_134) (dw_hn hni_80 qx_134)
                    · have fc_124 : r_121.toInt = to.toInt := zf_eq c_124 rfl rfl
                      refine lv_iload hx hb dX8_behind_108 (lv_at hl 2 rfl) ?_
                      refine lv_iload hx hb dX8_behind_110 (lv_at hl 0 rfl) ?_
                      refine lv_aload_n hx hb dX8_behind_112 rfl (lv_at hl 3 rfl) ?_
                      refine lv_iload_n hx hb dX8_behind_113 rfl (lv_at hl 4 rfl) ?_
                      refine lv_iload hx hb dX8_behind_114 (lv_at hl 1 rfl) ?_
                      refine zc_V (As := [.int s_, .int i_80]) (rest := [.int r_118, .int v_115]) ⟨hx, hb, hml, hown, hts⟩ (c_M_intAt l D cI cJ cZ cP cS po m0 mrf mki mpa mta mla msl mco mhe mso msi msh mce mca mwo mnu mte mwa mke mma mth mtr (npu) (nte) (nat_) (nde) (nto) (nse) (nhu) (nga) (nsd) (nfa) (nba) (npl) (nen) (nnu) (nwr) (nra) (nik) gce (s_) (i_80) hy0 hy1 hy2 hy3 hy4 hy5 hy6 hy7 hy8 hy9 hy10 hy11 hy12 hy13 (by omega) (by omega) (by omega) (by omega)) (cwV 2 hts gX8_behind_X8_intAt rfl rfl rfl ⟨rfl, dh_X8_intAt⟩ ⟨Nat.le_of_ble_eq_true rfl, Nat.le_of_ble_eq_true rfl⟩) hK hN (hZ.kept hS) hP (hP.sub [0, 4] rfl) (va_recv (q := (RX8, TX8, 38)) hK hP (ci := 8) (q0 := 0) rfl rfl) rfl hl.1 rfl (Nat.le_of_ble_eq_true rfl) dX8_behind_116 ⟨Nat.le_of_ble_eq_true rfl, Nat.le_of_ble_eq_true rfl⟩ (fun r_135 hr_135 => ?_)
                      refine lv_imul hx hb dX8_behind_119 ?_
                      refine lv_topi (fun x_136 ex_136 => ?_)
                      refine lv_iadd hx hb dX8_behind_120 ?_
                      refine lv_topi (fun x_137 ex_137 => ?_)
                      refine lv_istore (lv' := [(5, .int x_137), (7, .int r_118), (6, .int i_80), (0, .ref m0), (1, .int s_), (2, .int p_), (3, .int to)]) hx hb dX8_behind_121 hl (by decide) rfl (fun ls hl => ?_)
                      refine lv_aload_n hx hb dX8_behind_123 rfl (lv_at hl 3 rfl) ?_
                      refine lv_iload_n hx hb dX8_behind_124 rfl (lv_at hl 5 rfl) ?_
                      refine lv_iload hx hb dX8_behind_125 (lv_at hl 2 rfl) ?_
                      refine lv_iconst (v := 0) hx hb dX8_behind_127 (by decide) ?_
                      refine zc_V (As := [.int p_, .int i_80, .int 0]) (rest := []) ⟨hx, hb, hml, hown, hts⟩ (c_M_deep l D cI cJ cZ cP cS po m0 mrf mki mpa mta mla msl mco mhe mso msi msh mce mca mwo mnu mte mwa mke mma mth mtr (npu) (nte) (nat_) (nde) (nto) (nse) (nhu) (nga) (nsd) (nfa) (nba) (npl) (nen) (nnu) (nwr) (nra) (nik) gki gpa (p_) (i_80) (0) hy0 hy1 hy2 hy3 hy4 hy5 hy6 hy7 hy8 hy9 hy10 hy11 hy12 hy13 (by omega) (by omega) (by omega) (by omega) hp_gki hp_gpa) (cwV 3 hts gX8_behind_X8_deep rfl rfl rfl ⟨rfl, dh_X8_deep⟩ ⟨Nat.le_of_ble_eq_true rfl, Nat.le_of_ble_eq_true rfl⟩) hK hN (hZ.kept hS) hP (hP.sub [0, 5, 6] rfl) (va_recv (q := (RX8, TX8, 38)) hK hP (ci := 8) (q0 := 0) rfl rfl) rfl hl.1 rfl (Nat.le_of_ble_eq_true rfl) dX8_behind_128 ⟨Nat.le_of_ble_eq_true rfl, Nat.le_of_ble_eq_true rfl⟩ (fun r_138 hr_138 => ?_)
                      obtain ⟨g_139, g_140⟩ := hr_138
                      refine lv_iload_n hx hb dX8_behind_131 rfl (lv_at hl 6 rfl) ?_
                      refine lv_icmp_ne (tgt := 153) hx hb dX8_behind_132 (by decide) (fun c_141 => ?_) (fun c_141 => ?_)
                      · have fc_141 : r_138.toInt ≠ to.toInt := zf_ne c_141 rfl rfl
                        obtain ⟨x_142, ex_142⟩ : ∃ y : Int32, y = i_80 + 1 := ⟨_, rfl⟩
                        have qx_142 : x_142.toInt = i_80.toInt + 1 := by rw [ex_142]; exact zf_add rfl (by decide) (by omega) (by omega)
                        refine lv_iinc (v := x_142) (lv' := [(6, .int x_142), (5, .int x_137), (7, .int r_118), (0, .ref m0), (1, .int s_), (2, .int p_), (3, .int to)]) hx hb dX8_behind_153 hl (k := 2) rfl ex_142.symm (by decide) rfl (fun ls hl => ?_)
                        refine lv_goto (tgt := 80) hx hb dX8_behind_156 (by decide) ?_
                        exact ih x_142 x_137 _ _ _ (hP.sub [0, 1, 2, 3, 4, 5, 6] rfl) (hD.sub [0, 1, 2, 3, 4, 5, 6] (by decide) rfl) hS (lv_sub hl [0, 1, 3, 4, 5, 6] rfl) (dw_lo hloi_80 qx_142) (dw_hn hni_80 qx_142)
                      · have fc_141 : r_138.toInt = to.toInt := zf_eq c_141 rfl rfl
                        refine lv_iload hx hb dX8_behind_135 (lv_at hl 0 rfl) ?_
                        refine lv_bipush (v := 12) hx hb dX8_behind_137 (by decide) ?_
                        refine lv_iload hx hb dX8_behind_139 (lv_at hl 1 rfl) ?_
                        refine lv_isub hx hb dX8_behind_141 ?_
                        refine lv_topi (fun x_143 ex_143 => ?_)
                        have qx_143 : x_143.toInt = 12 - r_118.toInt := by rw [ex_143]; exact zf_sub (by decide) rfl (by omega) (by omega)
                        refine lv_aload_n hx hb dX8_behind_142 rfl (lv_at hl 3 rfl) ?_
                        refine lv_iload_n hx hb dX8_behind_143 rfl (lv_at hl 4 rfl) ?_
                        refine lv_iload hx hb dX8_behind_144 (lv_at hl 2 rfl) ?_
                        refine zc_V (As := [.int s_, .int i_80]) (rest := [.int x_143, .int x_137]) ⟨hx, hb, hml, hown, hts⟩ (c_M_intAt l D cI cJ cZ cP cS po m0 mrf mki mpa mta mla msl mco mhe mso msi msh mce mca mwo mnu mte mwa mke mma mth mtr (npu) (nte) (nat_) (nde) (nto) (nse) (nhu) (nga) (nsd) (nfa) (nba) (npl) (nen) (nnu) (nwr) (nra) (nik) gce (s_) (i_80) hy0 hy1 hy2 hy3 hy4 hy5 hy6 hy7 hy8 hy9 hy10 hy11 hy12 hy13 (by omega) (by omega) (by omega) (by omega)) (cwV 2 hts gX8_behind_X8_intAt rfl rfl rfl ⟨rfl, dh_X8_intAt⟩ ⟨Nat.le_of_ble_eq_true rfl, Nat.le_of_ble_eq_true rfl⟩) hK hN (hZ.kept hS) hP (hP.sub [0, 4] rfl) (va_recv (q := (RX8, TX8, 38)) hK hP (ci := 8) (q0 := 0) rfl rfl) rfl hl.1 rfl (Nat.le_of_ble_eq_true rfl) dX8_behind_146 ⟨Nat.le_of_ble_eq_true rfl, Nat.le_of_ble_eq_true rfl⟩ (fun r_144 hr_144 => ?_)
                        refine lv_imul hx hb dX8_behind_149 ?_
                        refine lv_topi (fun x_145 ex_145 => ?_)
                        refine lv_iadd hx hb dX8_behind_150 ?_
                        refine lv_topi (fun x_146 ex_146 => ?_)
                        refine lv_istore (lv' := [(5, .int x_146), (7, .int r_118), (6, .int i_80), (0, .ref m0), (1, .int s_), (2, .int p_), (3, .int to)]) hx hb dX8_behind_151 hl (by decide) rfl (fun ls hl => ?_)
                        obtain ⟨x_147, ex_147⟩ : ∃ y : Int32, y = i_80 + 1 := ⟨_, rfl⟩
                        have qx_147 : x_147.toInt = i_80.toInt + 1 := by rw [ex_147]; exact zf_add rfl (by decide) (by omega) (by omega)
                        refine lv_iinc (v := x_147) (lv' := [(6, .int x_147), (5, .int x_146), (7, .int r_118), (0, .ref m0), (1, .int s_), (2, .int p_), (3, .int to)]) hx hb dX8_behind_153 hl (k := 2) rfl ex_147.symm (by decide) rfl (fun ls hl => ?_)
                        refine lv_goto (tgt := 80) hx hb dX8_behind_156 (by decide) ?_
                        exact ih x_147 x_146 _ _ _ (hP.sub [0, 1, 2, 3, 4, 5, 6] rfl) (hD.sub [0, 1, 2, 3, 4, 5, 6] (by decide) rfl) hS (lv_sub hl [0, 1, 3, 4, 5, 6] rfl) (dw_lo hloi_80 qx_147) (dw_hn hni_80 qx_147)
              · have fc_114 : to.toInt = 0 := zf_eq c_114 rfl (by decide)
                refine lv_bipush (v := 12) hx hb dX8_behind_62 (by decide) ?_
                refine lv_aload_n hx hb dX8_behind_64 rfl (lv_at hl 1 rfl) ?_
                refine lv_iload_n hx hb dX8_behind_65 rfl (lv_at hl 2 rfl) ?_
                refine lv_iconst (v := 0) hx hb dX8_behind_66 (by decide) ?_
                have kc0 : (0 : Int32).toInt = 0 := by decide
                refine zc_V (As := [.int s_, .int 0]) (rest := [.int 12]) ⟨hx, hb, hml, hown, hts⟩ (c_M_intAt l D cI cJ cZ cP cS po m0 mrf mki mpa mta mla msl mco mhe mso msi msh mce mca mwo mnu mte mwa mke mma mth mtr (npu) (nte) (nat_) (nde) (nto) (nse) (nhu) (nga) (nsd) (nfa) (nba) (npl) (nen) (nnu) (nwr) (nra) (nik) gce (s_) (0) hy0 hy1 hy2 hy3 hy4 hy5 hy6 hy7 hy8 hy9 hy10 hy11 hy12 hy13 (by omega) (by omega) (by omega) (by omega)) (cwV 2 hts gX8_behind_X8_intAt rfl rfl rfl ⟨rfl, dh_X8_intAt⟩ ⟨Nat.le_of_ble_eq_true rfl, Nat.le_of_ble_eq_true rfl⟩) hK hN (hZ.kept hS) hP (hP.sub [0, 4] rfl) (va_recv (q := (RX8, TX8, 38)) hK hP (ci := 8) (q0 := 0) rfl rfl) rfl hl.1 rfl (Nat.le_of_ble_eq_true rfl) dX8_behind_67 ⟨Nat.le_of_ble_eq_true rfl, Nat.le_of_ble_eq_true rfl⟩ (fun r_148 hr_148 => ?_)
                refine lv_imul hx hb dX8_behind_70 ?_
                refine lv_topi (fun x_149 ex_149 => ?_)
                refine lv_goto (tgt := 75) hx hb dX8_behind_71 (by decide) ?_
                refine lv_istore (lv' := [(5, .int x_149), (4, .int r_98), (0, .ref m0), (1, .int s_), (2, .int p_), (3, .int to)]) hx hb dX8_behind_75 hl (by decide) rfl (fun ls hl => ?_)
                refine lv_iconst (v := 1) hx hb dX8_behind_77 (by decide) ?_
                refine lv_istore (lv' := [(6, .int 1), (5, .int x_149), (4, .int r_98), (0, .ref m0), (1, .int s_), (2, .int p_), (3, .int to)]) hx hb dX8_behind_78 hl (by decide) rfl (fun ls hl => ?_)
                obtain ⟨i_80, hi_80⟩ : ∃ i : Int32, i = 1 := ⟨_, rfl⟩
                replace hl : lv_has ls 8 [(6, .int i_80), (5, .int x_149), (0, .ref m0), (1, .int s_), (2, .int p_), (3, .int to)] := by rw [hi_80]; exact lv_sub hl [0, 1, 3, 4, 5, 6] rfl
                have h1i_80 : i_80.toInt = 1 := by rw [hi_80]; decide
                obtain ⟨nfu, hni_80⟩ : ∃ nq9 : Nat, 25 ≤ i_80.toInt + (nq9 : Int) := ⟨((25 : Int) - 1).toNat, by omega⟩
                have hloi_80 : 1 ≤ i_80.toInt := by omega
                obtain ⟨v_150, hv_150⟩ : ∃ g : Int32, g = x_149 := ⟨_, rfl⟩
                replace hl : lv_has ls 8 [(6, .int i_80), (5, .int v_150), (0, .ref m0), (1, .int s_), (2, .int p_), (3, .int to)] := by rw [hv_150]; exact hl
                clear h1i_80 hi_80 hv_150
                skip
                revert hni_80
                revert hloi_80
                revert hl
                revert hS
                revert hD
                revert hP
                revert ls
                revert locs
                revert H
                revert v_150
                revert i_80
                induction nfu with
                | zero =>
                  intro i_80 v_150 H locs ls hP hD hS hl hloi_80 hni_80
                  have hzi_80 : 25 ≤ i_80.toInt := by omega
                  refine lv_iload hx hb dX8_behind_80 (lv_at hl 0 rfl) ?_
                  refine lv_bipush (v := 24) hx hb dX8_behind_82 (by decide) ?_
                  refine lv_icmp_gt (tgt := 159) hx hb dX8_behind_84 (by decide) (fun c_151 => ?_) (fun c_151 => ?_)
                  · have fc_151 : 24 < i_80.toInt := zf_lt c_151 (by decide) rfl
                    refine lv_iload hx hb dX8_behind_159 (lv_at hl 1 rfl) ?_
                    exact W.iret (v := v_150) hx hb hr (fun t ht hW => ⟨⟨v_150, grf, rfl, trivial, zRet ht hP hD [0, 1, 2, 3, 4, 5, 6] (by decide) rfl⟩, hS.F ht⟩) hS.2.2 dX8_behind_161
                  · exfalso; have fc_151 : i_80.toInt ≤ 24 := zf_nlt c_151 (by decide) rfl; omega
                | succ nfu ih =>
                  intro i_80 v_150 H locs ls hP hD hS hl hloi_80 hni_80
                  refine lv_iload hx hb dX8_behind_80 (lv_at hl 0 rfl) ?_
                  refine lv_bipush (v := 24) hx hb dX8_behind_82 (by decide) ?_
                  refine lv_icmp_gt (tgt := 159) hx hb dX8_behind_84 (by decide) (fun c_152 => ?_) (fun c_152 => ?_)
                  · have fc_152 : 24 < i_80.toInt := zf_lt c_152 (by decide) rfl
                    refine lv_iload hx hb dX8_behind_159 (lv_at hl 1 rfl) ?_
                    exact W.iret (v := v_150) hx hb hr (fun t ht hW => ⟨⟨v_150, grf, rfl, trivial, zRet ht hP hD [0, 1, 2, 3, 4, 5, 6] (by decide) rfl⟩, hS.F ht⟩) hS.2.2 dX8_behind_161
                  · have fc_152 : i_80.toInt ≤ 24 := zf_nlt c_152 (by decide) rfl
                    refine lv_aload_n hx hb dX8_behind_87 rfl (lv_at hl 2 rfl) ?_
                    refine lv_iload_n hx hb dX8_behind_88 rfl (lv_at hl 4 rfl) ?_
                    refine lv_iload hx hb dX8_behind_89 (lv_at hl 0 rfl) ?_
                    refine zc_V (As := [.int p_, .int i_80]) (rest := []) ⟨hx, hb, hml, hown, hts⟩ (c_M_ways l D cI cJ cZ cP cS po m0 mrf mki mpa mta mla msl mco mhe mso msi msh mce mca mwo mnu mte mwa mke mma mth mtr (npu) (nte) (nat_) (nde) (nto) (nse) (nhu) (nga) (nsd) (nfa) (nba) (npl) (nen) (nnu) (nwr) (nra) (nik) gki gpa (p_) (i_80) hy0 hy1 hy2 hy3 hy4 hy5 hy6 hy7 hy8 hy9 hy10 hy11 hy12 hy13 (by omega) (by omega) hp_gki hp_gpa) (cwV 2 hts gX8_behind_X8_ways rfl rfl rfl ⟨rfl, dh_X8_ways⟩ ⟨Nat.le_of_ble_eq_true rfl, Nat.le_of_ble_eq_true rfl⟩) hK hN (hZ.kept hS) hP (hP.sub [0, 5, 6] rfl) (va_recv (q := (RX8, TX8, 38)) hK hP (ci := 8) (q0 := 0) rfl rfl) rfl hl.1 rfl (Nat.le_of_ble_eq_true rfl) dX8_behind_91 ⟨Nat.le_of_ble_eq_true rfl, Nat.le_of_ble_eq_true rfl⟩ (fun r_153 hr_153 => ?_)
                    obtain ⟨g_154, g_155⟩ := hr_153
                    refine lv_istore (lv' := [(7, .int r_153), (6, .int i_80), (5, .int v_150), (0, .ref m0), (1, .int s_), (2, .int p_), (3, .int to)]) hx hb dX8_behind_94 hl (by decide) rfl (fun ls hl => ?_)
                    refine lv_aload_n hx hb dX8_behind_96 rfl (lv_at hl 3 rfl) ?_
                    refine lv_iload_n hx hb dX8_behind_97 rfl (lv_at hl 5 rfl) ?_
                    refine lv_iload hx hb dX8_behind_98 (lv_at hl 1 rfl) ?_
                    refine lv_iconst (v := 1) hx hb dX8_behind_100 (by decide) ?_
                    refine zc_V (As := [.int p_, .int i_80, .int 1]) (rest := []) ⟨hx, hb, hml, hown, hts⟩ (c_M_deep l D cI cJ cZ cP cS po m0 mrf mki mpa mta mla msl mco mhe mso msi msh mce mca mwo mnu mte mwa mke mma mth mtr (npu) (nte) (nat_) (nde) (nto) (nse) (nhu) (nga) (nsd) (nfa) (nba) (npl) (nen) (nnu) (nwr) (nra) (nik) gki gpa (p_) (i_80) (1) hy0 hy1 hy2 hy3 hy4 hy5 hy6 hy7 hy8 hy9 hy10 hy11 hy12 hy13 (by omega) (by omega) (by omega) (by omega) hp_gki hp_gpa) (cwV 3 hts gX8_behind_X8_deep rfl rfl rfl ⟨rfl, dh_X8_deep⟩ ⟨Nat.le_of_ble_eq_true rfl, Nat.le_of_ble_eq_true rfl⟩) hK hN (hZ.kept hS) hP (hP.sub [0, 5, 6] rfl) (va_recv (q := (RX8, TX8, 38)) hK hP (ci := 8) (q0 := 0) rfl rfl) rfl hl.1 rfl (Nat.le_of_ble_eq_true rfl) dX8_behind_101 ⟨Nat.le_of_ble_eq_true rfl, Nat.le_of_ble_eq_true rfl⟩ (fun r_156 hr_156 => ?_)
                    obtain ⟨g_157, g_158⟩ := hr_156
                    refine lv_iload_n hx hb dX8_behind_104 rfl (lv_at hl 6 rfl) ?_
                    refine lv_icmp_ne (tgt := 123) hx hb dX8_behind_105 (by decide) (fun c_159 => ?_) (fun c_159 => ?_)
                    · have fc_159 : r_156.toInt ≠ to.toInt := zf_ne c_159 rfl rfl
                      refine lv_aload_n hx hb dX8_behind_123 rfl (lv_at hl 3 rfl) ?_
                      refine lv_iload_n hx hb dX8_behind_124 rfl (lv_at hl 5 rfl) ?_
                      refine lv_iload hx hb dX8_behind_125 (lv_at hl 1 rfl) ?_
                      refine lv_iconst (v := 0) hx hb dX8_behind_127 (by decide) ?_
                      refine zc_V (As := [.int p_, .int i_80, .int 0]) (rest := []) ⟨hx, hb, hml, hown, hts⟩ (c_M_deep l D cI cJ cZ cP cS po m0 mrf mki mpa mta mla msl mco mhe mso msi msh mce mca mwo mnu mte mwa mke mma mth mtr (npu) (nte) (nat_) (nde) (nto) (nse) (nhu) (nga) (nsd) (nfa) (nba) (npl) (nen) (nnu) (nwr) (nra) (nik) gki gpa (p_) (i_80) (0) hy0 hy1 hy2 hy3 hy4 hy5 hy6 hy7 hy8 hy9 hy10 hy11 hy12 hy13 (by omega) (by omega) (by omega) (by omega) hp_gki hp_gpa) (cwV 3 hts gX8_behind_X8_deep rfl rfl rfl ⟨rfl, dh_X8_deep⟩ ⟨Nat.le_of_ble_eq_true rfl, Nat.le_of_ble_eq_true rfl⟩) hK hN (hZ.kept hS) hP (hP.sub [0, 5, 6] rfl) (va_recv (q := (RX8, TX8, 38)) hK hP (ci := 8) (q0 := 0) rfl rfl) rfl hl.1 rfl (Nat.le_of_ble_eq_true rfl) dX8_behind_128 ⟨Nat.le_of_ble_eq_true rfl, Nat.le_of_ble_eq_true rfl⟩ (fun r_160 hr_160 => ?_)
                      obtain ⟨g_161, g_162⟩ := hr_160
                      refine lv_iload_n hx hb dX8_behind_131 rfl (lv_at hl 6 rfl) ?_
                      refine lv_icmp_ne (tgt := 153) hx hb dX8_behind_132 (by decide) (fun c_163 => ?_) (fun c_163 => ?_)
                      · have fc_163 : r_160.toInt ≠ to.toInt := zf_ne c_163 rfl rfl
                        obtain ⟨x_164, ex_164⟩ : ∃ y : Int32, y = i_80 + 1 := ⟨_, rfl⟩
                        have qx_164 : x_164.toInt = i_80.toInt + 1 := by rw [ex_164]; exact zf_add rfl (by decide) (by omega) (by omega)
                        refine lv_iinc (v := x_164) (lv' := [(6, .int x_164), (7, .int r_153), (5, .int v_150), (0, .ref m0), (1, .int s_), (2, .int p_), (3, .int to)]) hx hb dX8_behind_153 hl (k := 1) rfl ex_164.symm (by decide) rfl (fun ls hl => ?_)
                        refine lv_goto (tgt := 80) hx hb dX8_behind_156 (by decide) ?_
                        exact ih x_164 v_150 _ _ _ (hP.sub [0, 1, 2, 3, 4, 5, 6] rfl) (hD.sub [0, 1, 2, 3, 4, 5, 6] (by decide) rfl) hS (lv_sub hl [0, 2, 3, 4, 5, 6] rfl) (dw_lo hloi_80 qx_164) (dw_hn hni_80 qx_164)
                      · have fc_163 : r_160.toInt = to.toInt := zf_eq c_163 rfl rfl
                        refine lv_iload hx hb dX8_behind_135 (lv_at hl 2 rfl) ?_
                        refine lv_bipush (v := 12) hx hb dX8_behind_137 (by decide) ?_
                        refine lv_iload hx hb dX8_behind_139 (lv_at hl 0 rfl) ?_
                        refine lv_isub hx hb dX8_behind_141 ?_
                        refine lv_topi (fun x_165 ex_165 => ?_)
                        have qx_165 : x_165.toInt = 12 - r_153.toInt := by rw [ex_165]; exact zf_sub (by decide) rfl (by omega) (by omega)
                        refine lv_aload_n hx hb dX8_behind_142 rfl (lv_at hl 3 rfl) ?_
                        refine lv_iload_n hx hb dX8_behind_143 rfl (lv_at hl 4 rfl) ?_
                        refine lv_iload hx hb dX8_behind_144 (lv_at hl 1 rfl) ?_
                        refine zc_V (As := [.int s_, .int i_80]) (rest := [.int x_165, .int v_150]) ⟨hx, hb, hml, hown, hts⟩ (c_M_intAt l D cI cJ cZ cP cS po m0 mrf mki mpa mta mla msl mco mhe mso msi msh mce mca mwo mnu mte mwa mke mma mth mtr (npu) (nte) (nat_) (nde) (nto) (nse) (nhu) (nga) (nsd) (nfa) (nba) (npl) (nen) (nnu) (nwr) (nra) (nik) gce (s_) (i_80) hy0 hy1 hy2 hy3 hy4 hy5 hy6 hy7 hy8 hy9 hy10 hy11 hy12 hy13 (by omega) (by omega) (by omega) (by omega)) (cwV 2 hts gX8_behind_X8_intAt rfl rfl rfl ⟨rfl, dh_X8_intAt⟩ ⟨Nat.le_of_ble_eq_true rfl, Nat.le_of_ble_eq_true rfl⟩) hK hN (hZ.kept hS) hP (hP.sub [0, 4] rfl) (va_recv (q := (RX8, TX8, 38)) hK hP (ci := 8) (q0 := 0) rfl rfl) rfl hl.1 rfl (Nat.le_of_ble_eq_true rfl) dX8_behind_146 ⟨Nat.le_of_ble_eq_true rfl, Nat.le_of_ble_eq_true rfl⟩ (fun r_166 hr_166 => ?_)
                        refine lv_imul hx hb dX8_behind_149 ?_
                        refine lv_topi (fun x_167 ex_167 => ?_)
                        refine lv_iadd hx hb dX8_behind_150 ?_
                        refine lv_topi (fun x_168 ex_168 => ?_)
                        refine lv_istore (lv' := [(5, .int x_168), (7, .int r_153), (6, .int i_80), (0, .ref m0), (1, .int s_), (2, .int p_), (3, .int to)]) hx hb dX8_behind_151 hl (by decide) rfl (fun ls hl => ?_)
                        obtain ⟨x_169, ex_169⟩ : ∃ y : Int32, y = i_80 + 1 := ⟨_, rfl⟩
                        have qx_169 : x_169.toInt = i_80.toInt + 1 := by rw [ex_169]; exact zf_add rfl (by decide) (by omega) (by omega)
                        refine lv_iinc (v := x_169) (lv' := [(6, .int x_169), (5, .int x_168), (7, .int r_153), (0, .ref m0), (1, .int s_), (2, .int p_), (3, .int to)]) hx hb dX8_behind_153 hl (k := 2) rfl ex_169.symm (by decide) rfl (fun ls hl => ?_)
                        refine lv_goto (tgt := 80) hx hb dX8_behind_156 (by decide) ?_
                        exact ih x_169 x_168 _ _ _ (hP.sub [0, 1, 2, 3, 4, 5, 6] rfl) (hD.sub [0, 1, 2, 3, 4, 5, 6] (by decide) rfl) hS (lv_sub hl [0, 1, 3, 4, 5, 6] rfl) (dw_lo hloi_80 qx_169) (dw_hn hni_80 qx_169)
                    · have fc_159 : r_156.toInt = to.toInt := zf_eq c_159 rfl rfl
                      refine lv_iload hx hb dX8_behind_108 (lv_at hl 2 rfl) ?_
                      refine lv_iload hx hb dX8_behind_110 (lv_at hl 0 rfl) ?_
                      refine lv_aload_n hx hb dX8_behind_112 rfl (lv_at hl 3 rfl) ?_
                      refine lv_iload_n hx hb dX8_behind_113 rfl (lv_at hl 4 rfl) ?_
                      refine lv_iload hx hb dX8_behind_114 (lv_at hl 1 rfl) ?_
                      refine zc_V (As := [.int s_, .int i_80]) (rest := [.int r_153, .int v_150]) ⟨hx, hb, hml, hown, hts⟩ (c_M_intAt l D cI cJ cZ cP cS po m0 mrf mki mpa mta mla msl mco mhe mso msi msh mce mca mwo mnu mte mwa mke mma mth mtr (npu) (nte) (nat_) (nde) (nto) (nse) (nhu) (nga) (nsd) (nfa) (nba) (npl) (nen) (nnu) (nwr) (nra) (nik) gce (s_) (i_80) hy0 hy1 hy2 hy3 hy4 hy5 hy6 hy7 hy8 hy9 hy10 hy11 hy12 hy13 (by omega) (by omega) (by omega) (by omega)) (cwV 2 hts gX8_behind_X8_intAt rfl rfl rfl ⟨rfl, dh_X8_intAt⟩ ⟨Nat.le_of_ble_eq_true rfl, Nat.le_of_ble_eq_true rfl⟩) hK hN (hZ.kept hS) hP (hP.sub [0, 4] rfl) (va_recv (q := (RX8, TX8, 38)) hK hP (ci := 8) (q0 := 0) rfl rfl) rfl hl.1 rfl (Nat.le_of_ble_eq_true rfl) dX8_behind_116 ⟨Nat.le_of_ble_eq_true rfl, Nat.le_of_ble_eq_true rfl⟩ (fun r_170 hr_170 => ?_)
                      refine lv_imul hx hb dX8_behind_119 ?_
                      refine lv_topi (fun x_171 ex_171 => ?_)
                      refine lv_iadd hx hb dX8_behind_120 ?_
                      refine lv_topi (fun x_172 ex_172 => ?_)
                      refine lv_istore (lv' := [(5, .int x_172), (7, .int r_153), (6, .int i_80), (0, .ref m0), (1, .int s_), (2, .int p_), (3, .int to)]) hx hb dX8_behind_121 hl (by decide) rfl (fun ls hl => ?_)
                      refine lv_aload_n hx hb dX8_behind_123 rfl (lv_at hl 3 rfl) ?_
                      refine lv_iload_n hx hb dX8_behind_124 rfl (lv_at hl 5 rfl) ?_
                      refine lv_iload hx hb dX8_behind_125 (lv_at hl 2 rfl) ?_
                      refine lv_iconst (v := 0) hx hb dX8_behind_127 (by decide) ?_
                      refine zc_V (As := [.int p_, .int i_80, .int 0]) (rest := []) ⟨hx, hb, hml, hown, hts⟩ (c_M_deep l D cI cJ cZ cP cS po m0 mrf mki mpa mta mla msl mco mhe mso msi msh mce mca mwo mnu mte mwa mke mma mth mtr (npu) (nte) (nat_) (nde) (nto) (nse) (nhu) (nga) (nsd) (nfa) (nba) (npl) (nen) (nnu) (nwr) (nra) (nik) gki gpa (p_) (i_80) (0) hy0 hy1 hy2 hy3 hy4 hy5 hy6 hy7 hy8 hy9 hy10 hy11 hy12 hy13 (by omega) (by omega) (by omega) (by omega) hp_gki hp_gpa) (cwV 3 hts gX8_behind_X8_deep rfl rfl rfl ⟨rfl, dh_X8_deep⟩ ⟨Nat.le_of_ble_eq_true rfl, Nat.le_of_ble_eq_true rfl⟩) hK hN (hZ.kept hS) hP (hP.sub [0, 5, 6] rfl) (va_recv (q := (RX8, TX8, 38)) hK hP (ci := 8) (q0 := 0) rfl rfl) rfl hl.1 rfl (Nat.le_of_ble_eq_true rfl) dX8_behind_128 ⟨Nat.le_of_ble_eq_true rfl, Nat.le_of_ble_eq_true rfl⟩ (fun r_173 hr_173 => ?_)
                      obtain ⟨g_174, g_175⟩ := hr_173
                      refine lv_iload_n hx hb dX8_behind_131 rfl (lv_at hl 6 rfl) ?_
                      refine lv_icmp_ne (tgt := 153) hx hb dX8_behind_132 (by decide) (fun c_176 => ?_) (fun c_176 => ?_)
                      · have fc_176 : r_173.toInt ≠ to.toInt := zf_ne c_176 rfl rfl
                        obtain ⟨x_177, ex_177⟩ : ∃ y : Int32, y = i_80 + 1 := ⟨_, rfl⟩
                        have qx_177 : x_177.toInt = i_80.toInt + 1 := by rw [ex_177]; exact zf_add rfl (by decide) (by omega) (by omega)
                        refine lv_iinc (v := x_177) (lv' := [(6, .int x_177), (5, .int x_172), (7, .int r_153), (0, .ref m0), (1, .int s_), (2, .int p_), (3, .int to)]) hx hb dX8_behind_153 hl (k := 2) rfl ex_177.symm (by decide) rfl (fun ls hl => ?_)
                        refine lv_goto (tgt := 80) hx hb dX8_behind_156 (by decide) ?_
                        exact ih x_177 x_172 _ _ _ (hP.sub [0, 1, 2, 3, 4, 5, 6] rfl) (hD.sub [0, 1, 2, 3, 4, 5, 6] (by decide) rfl) hS (lv_sub hl [0, 1, 3, 4, 5, 6] rfl) (dw_lo hloi_80 qx_177) (dw_hn hni_80 qx_177)
                      · have fc_176 : r_173.toInt = to.toInt := zf_eq c_176 rfl rfl
                        refine lv_iload hx hb dX8_behind_135 (lv_at hl 0 rfl) ?_
                        refine lv_bipush (v := 12) hx hb dX8_behind_137 (by decide) ?_
                        refine lv_iload hx hb dX8_behind_139 (lv_at hl 1 rfl) ?_
                        refine lv_isub hx hb dX8_behind_141 ?_
                        refine lv_topi (fun x_178 ex_178 => ?_)
                        have qx_178 : x_178.toInt = 12 - r_153.toInt := by rw [ex_178]; exact zf_sub (by decide) rfl (by omega) (by omega)
                        refine lv_aload_n hx hb dX8_behind_142 rfl (lv_at hl 3 rfl) ?_
                        refine lv_iload_n hx hb dX8_behind_143 rfl (lv_at hl 4 rfl) ?_
                        refine lv_iload hx hb dX8_behind_144 (lv_at hl 2 rfl) ?_
                        refine zc_V (As := [.int s_, .int i_80]) (rest := [.int x_178, .int x_172]) ⟨hx, hb, hml, hown, hts⟩ (c_M_intAt l D cI cJ cZ cP cS po m0 mrf mki mpa mta mla msl mco mhe mso msi msh mce mca mwo mnu mte mwa mke mma mth mtr (npu) (nte) (nat_) (nde) (nto) (nse) (nhu) (nga) (nsd) (nfa) (nba) (npl) (nen) (nnu) (nwr) (nra) (nik) gce (s_) (i_80) hy0 hy1 hy2 hy3 hy4 hy5 hy6 hy7 hy8 hy9 hy10 hy11 hy12 hy13 (by omega) (by omega) (by omega) (by omega)) (cwV 2 hts gX8_behind_X8_intAt rfl rfl rfl ⟨rfl, dh_X8_intAt⟩ ⟨Nat.le_of_ble_eq_true rfl, Nat.le_of_ble_eq_true rfl⟩) hK hN (hZ.kept hS) hP (hP.sub [0, 4] rfl) (va_recv (q := (RX8, TX8, 38)) hK hP (ci := 8) (q0 := 0) rfl rfl) rfl hl.1 rfl (Nat.le_of_ble_eq_true rfl) dX8_behind_146 ⟨Nat.le_of_ble_eq_true rfl, Nat.le_of_ble_eq_true rfl⟩ (fun r_179 hr_179 => ?_)
                        refine lv_imul hx hb dX8_behind_149 ?_
                        refine lv_topi (fun x_180 ex_180 => ?_)
                        refine lv_iadd hx hb dX8_behind_150 ?_
                        refine lv_topi (fun x_181 ex_181 => ?_)
                        refine lv_istore (lv' := [(5, .int x_181), (7, .int r_153), (6, .int i_80), (0, .ref m0), (1, .int s_), (2, .int p_), (3, .int to)]) hx hb dX8_behind_151 hl (by decide) rfl (fun ls hl => ?_)
                        obtain ⟨x_182, ex_182⟩ : ∃ y : Int32, y = i_80 + 1 := ⟨_, rfl⟩
                        have qx_182 : x_182.toInt = i_80.toInt + 1 := by rw [ex_182]; exact zf_add rfl (by decide) (by omega) (by omega)
                        refine lv_iinc (v := x_182) (lv' := [(6, .int x_182), (5, .int x_181), (7, .int r_153), (0, .ref m0), (1, .int s_), (2, .int p_), (3, .int to)]) hx hb dX8_behind_153 hl (k := 2) rfl ex_182.symm (by decide) rfl (fun ls hl => ?_)
                        refine lv_goto (tgt := 80) hx hb dX8_behind_156 (by decide) ?_
                        exact ih x_182 x_181 _ _ _ (hP.sub [0, 1, 2, 3, 4, 5, 6] rfl) (hD.sub [0, 1, 2, 3, 4, 5, 6] (by decide) rfl) hS (lv_sub hl [0, 1, 3, 4, 5, 6] rfl) (dw_lo hloi_80 qx_182) (dw_hn hni_80 qx_182)
            · exfalso; have fc_113 : r_98.toInt ≠ 0 := zf_ne c_113 rfl (by decide); omega
          · have fc_112 : 24 < to.toInt := zf_nle c_112 rfl (by decide)
            refine lv_bipush (v := (-6)) hx hb dX8_behind_42 (by decide) ?_
            refine lv_istore (lv' := [(4, .int (-6)), (0, .ref m0), (1, .int s_), (2, .int p_), (3, .int to)]) hx hb dX8_behind_44 hl (by decide) rfl (fun ls hl => ?_)
            refine lv_iload hx hb dX8_behind_46 (lv_at hl 0 rfl) ?_
            refine lv_if_eq (tgt := 58) hx hb dX8_behind_48 (by decide) (fun c_183 => ?_) (fun c_183 => ?_)
            · exact absurd c_183 (by decide)
            · refine lv_aload_n hx hb dX8_behind_51 rfl (lv_at hl 1 rfl) ?_
              refine lv_iload hx hb dX8_behind_52 (lv_at hl 0 rfl) ?_
              skip
              refine zw_V (As := [.int (-6)]) (rest := []) (wr := [(mhe, .inl (cI, 8, .inl ghe)), (msi, .inl (cI, 8, .inl gsi)), (mce, .inl (cJ, 1280, .inr (.inl gce))), (mki, .inl (cI, 8, .inl gki)), (mpa, .inl (cI, 8, .inl gpa))]) ⟨hx, hb, hml, hown, hts⟩ (c_M_no_6 l D cI cJ cZ cP cS po m0 mrf mki mpa mta mla msl mco mhe mso msi msh mce mca mwo mnu mte mwa mke mma mth mtr (npu) (nte) (nat_) (nde) (nto) (nse) (nhu) (nga) (nsd) (nfa) (nba) (npl) (nen) (nnu) (nwr) (nra) (nik) grf hy0 hy1 hy2 hy3 hy4 hy5 hy6 hy7 hy8 hy9 hy10 hy11 hy12 hy13 H.size) (cwV 1 hts gX8_behind_X8_no rfl rfl rfl ⟨rfl, dh_X8_no⟩ ⟨Nat.le_of_ble_eq_true rfl, Nat.le_of_ble_eq_true rfl⟩) hK hN (hZ.kept hS) hP hD hS hA [0, 1] [2, 3, 4, 5, 6] rfl rfl (by decide) (by decide) (by decide) (va_recv (q := (RX8, TX8, 38)) hK hP (ci := 8) (q0 := 0) rfl rfl) rfl hl.1 rfl (Nat.le_of_ble_eq_true rfl) dX8_behind_54 ⟨Nat.le_of_ble_eq_true rfl, Nat.le_of_ble_eq_true rfl⟩ (fun r_184 u_185 H locs hr_184 hP hD hS => ?_)
              obtain ⟨q_186, rfl⟩ : ∃ z, z = u_185 := ⟨_, rfl⟩
              have h9R := zRe (ws' := [(mhe, .inl (cI, 8, .inl ghe)), (msi, .inl (cI, 8, .inl gsi)), (mce, .inl (cJ, 1280, .inr (.inl gce))), (mki, .inl (cI, 8, .inl gki)), (mpa, .inl (cI, 8, .inl gpa)), (zMO m0 npu nte nat_ nde nto nse nhu nga nsd nfa mrf mki mpa mta mla msl mco mhe mso msi msh mce mca mwo mnu mte nba npl nen nnu nwr mwa mke mma mth mtr nra nik), (mrf, .inl (cI, 8, .inl q_186))]) hP hD rfl
              clear hP hD
              obtain ⟨hP, hD⟩ := h9R
              obtain rfl := hr_184
              exact W.iret (v := (-6)) hx hb hr (fun t ht hW => ⟨⟨(-6), q_186, rfl, trivial, zRet ht hP hD [5, 6, 0, 1, 2, 3, 4] (by decide) rfl⟩, hS.F ht⟩) hS.2.2 dX8_behind_57
    · exact absurd c_97 (by decide)
  · refine lv_if_eq (tgt := 20) hx hb dX8_behind_5 (by decide) (fun c_187 => ?_) (fun c_187 => ?_)
    · exact absurd c_187 (by decide)
    · refine lv_aload_n hx hb dX8_behind_8 rfl (lv_at hl 0 rfl) ?_
      refine lv_iload_n hx hb dX8_behind_9 rfl (lv_at hl 2 rfl) ?_
      refine zc_V (As := [.int p_]) (rest := []) ⟨hx, hb, hml, hown, hts⟩ (c_M_isPull l D cI cJ cZ cP cS po m0 mrf mki mpa mta mla msl mco mhe mso msi msh mce mca mwo mnu mte mwa mke mma mth mtr (npu) (nte) (nat_) (nde) (nto) (nse) (nhu) (nga) (nsd) (nfa) (nba) (npl) (nen) (nnu) (nwr) (nra) (nik) (p_) hy0 hy1 hy2 hy3 hy4 hy5 hy6 hy7 hy8 hy9 hy10 hy11 hy12 hy13) (cwV 1 hts gX8_behind_X8_isPull rfl rfl rfl ⟨rfl, dh_X8_isPull⟩ ⟨Nat.le_of_ble_eq_true rfl, Nat.le_of_ble_eq_true rfl⟩) hK hN (hZ.kept hS) hP (hP.sub [0] rfl) (va_recv (q := (RX8, TX8, 38)) hK hP (ci := 8) (q0 := 0) rfl rfl) rfl hl.1 rfl (Nat.le_of_ble_eq_true rfl) dX8_behind_10 ⟨Nat.le_of_ble_eq_true rfl, Nat.le_of_ble_eq_true rfl⟩ (fun r_188 hr_188 => ?_)
      rcases hr_188 with ⟨rfl, g_189⟩ | ⟨rfl, g_190, g_191⟩ | ⟨rfl, g_192, g_193⟩
      · refine lv_if_ne (tgt := 20) hx hb dX8_behind_13 (by decide) (fun c_194 => ?_) (fun c_194 => ?_)
        · exact absurd c_194 (by decide)
        · refine lv_iconst (v := (-1)) hx hb dX8_behind_16 (by decide) ?_
          refine lv_goto (tgt := 25) hx hb dX8_behind_17 (by decide) ?_
          refine lv_istore (lv' := [(4, .int (-1)), (0, .ref m0), (1, .int s_), (2, .int p_), (3, .int to)]) hx hb dX8_behind_25 hl (by decide) rfl (fun ls hl => ?_)
          refine lv_iload hx hb dX8_behind_27 (lv_at hl 0 rfl) ?_
          refine lv_if_ne (tgt := 46) hx hb dX8_behind_29 (by decide) (fun c_195 => ?_) (fun c_195 => ?_)
          · refine lv_iload hx hb dX8_behind_46 (lv_at hl 0 rfl) ?_
            refine lv_if_eq (tgt := 58) hx hb dX8_behind_48 (by decide) (fun c_196 => ?_) (fun c_196 => ?_)
            · exact absurd c_196 (by decide)
            · refine lv_aload_n hx hb dX8_behind_51 rfl (lv_at hl 1 rfl) ?_
              refine lv_iload hx hb dX8_behind_52 (lv_at hl 0 rfl) ?_
              skip
              refine zw_V (As := [.int (-1)]) (rest := []) (wr := [(mhe, .inl (cI, 8, .inl ghe)), (msi, .inl (cI, 8, .inl gsi)), (mce, .inl (cJ, 1280, .inr (.inl gce))), (mki, .inl (cI, 8, .inl gki)), (mpa, .inl (cI, 8, .inl gpa))]) ⟨hx, hb, hml, hown, hts⟩ (c_M_no_1 l D cI cJ cZ cP cS po m0 mrf mki mpa mta mla msl mco mhe mso msi msh mce mca mwo mnu mte mwa mke mma mth mtr (npu) (nte) (nat_) (nde) (nto) (nse) (nhu) (nga) (nsd) (nfa) (nba) (npl) (nen) (nnu) (nwr) (nra) (nik) grf hy0 hy1 hy2 hy3 hy4 hy5 hy6 hy7 hy8 hy9 hy10 hy11 hy12 hy13 H.size) (cwV 1 hts gX8_behind_X8_no rfl rfl rfl ⟨rfl, dh_X8_no⟩ ⟨Nat.le_of_ble_eq_true rfl, Nat.le_of_ble_eq_true rfl⟩) hK hN (hZ.kept hS) hP hD hS hA [0, 1] [2, 3, 4, 5, 6] rfl rfl (by decide) (by decide) (by decide) (va_recv (q := (RX8, TX8, 38)) hK hP (ci := 8) (q0 := 0) rfl rfl) rfl hl.1 rfl (Nat.le_of_ble_eq_true rfl) dX8_behind_54 ⟨Nat.le_of_ble_eq_true rfl, Nat.le_of_ble_eq_true rfl⟩ (fun r_197 u_198 H locs hr_197 hP hD hS => ?_)
              obtain ⟨q_199, rfl⟩ : ∃ z, z = u_198 := ⟨_, rfl⟩
              have h9R := zRe (ws' := [(mhe, .inl (cI, 8, .inl ghe)), (msi, .inl (cI, 8, .inl gsi)), (mce, .inl (cJ, 1280, .inr (.inl gce))), (mki, .inl (cI, 8, .inl gki)), (mpa, .inl (cI, 8, .inl gpa)), (zMO m0 npu nte nat_ nde nto nse nhu nga nsd nfa mrf mki mpa mta mla msl mco mhe mso msi msh mce mca mwo mnu mte nba npl nen nnu nwr mwa mke mma mth mtr nra nik), (mrf, .inl (cI, 8, .inl q_199))]) hP hD rfl
              clear hP hD
              obtain ⟨hP, hD⟩ := h9R
              obtain rfl := hr_197
              exact W.iret (v := (-1)) hx hb hr (fun t ht hW => ⟨⟨(-1), q_199, rfl, trivial, zRet ht hP hD [5, 6, 0, 1, 2, 3, 4] (by decide) rfl⟩, hS.F ht⟩) hS.2.2 dX8_behind_57
          · exact absurd c_195 (by decide)
      · refine lv_if_ne (tgt := 20) hx hb dX8_behind_13 (by decide) (fun c_200 => ?_) (fun c_200 => ?_)
        · exact absurd c_200 (by decide)
        · refine lv_iconst (v := (-1)) hx hb dX8_behind_16 (by decide) ?_
          refine lv_goto (tgt := 25) hx hb dX8_behind_17 (by decide) ?_
          refine lv_istore (lv' := [(4, .int (-1)), (0, .ref m0), (1, .int s_), (2, .int p_), (3, .int to)]) hx hb dX8_behind_25 hl (by decide) rfl (fun ls hl => ?_)
          refine lv_iload hx hb dX8_behind_27 (lv_at hl 0 rfl) ?_
          refine lv_if_ne (tgt := 46) hx hb dX8_behind_29 (by decide) (fun c_201 => ?_) (fun c_201 => ?_)
          · refine lv_iload hx hb dX8_behind_46 (lv_at hl 0 rfl) ?_
            refine lv_if_eq (tgt := 58) hx hb dX8_behind_48 (by decide) (fun c_202 => ?_) (fun c_202 => ?_)
            · exact absurd c_202 (by decide)
            · refine lv_aload_n hx hb dX8_behind_51 rfl (lv_at hl 1 rfl) ?_
              refine lv_iload hx hb dX8_behind_52 (lv_at hl 0 rfl) ?_
              skip
              refine zw_V (As := [.int (-1)]) (rest := []) (wr := [(mhe, .inl (cI, 8, .inl ghe)), (msi, .inl (cI, 8, .inl gsi)), (mce, .inl (cJ, 1280, .inr (.inl gce))), (mki, .inl (cI, 8, .inl gki)), (mpa, .inl (cI, 8, .inl gpa))]) ⟨hx, hb, hml, hown, hts⟩ (c_M_no_1 l D cI cJ cZ cP cS po m0 mrf mki mpa mta mla msl mco mhe mso msi msh mce mca mwo mnu mte mwa mke mma mth mtr (npu) (nte) (nat_) (nde) (nto) (nse) (nhu) (nga) (nsd) (nfa) (nba) (npl) (nen) (nnu) (nwr) (nra) (nik) grf hy0 hy1 hy2 hy3 hy4 hy5 hy6 hy7 hy8 hy9 hy10 hy11 hy12 hy13 H.size) (cwV 1 hts gX8_behind_X8_no rfl rfl rfl ⟨rfl, dh_X8_no⟩ ⟨Nat.le_of_ble_eq_true rfl, Nat.le_of_ble_eq_true rfl⟩) hK hN (hZ.kept hS) hP hD hS hA [0, 1] [2, 3, 4, 5, 6] rfl rfl (by decide) (by decide) (by decide) (va_recv (q := (RX8, TX8, 38)) hK hP (ci := 8) (q0 := 0) rfl rfl) rfl hl.1 rfl (Nat.le_of_ble_eq_true rfl) dX8_behind_54 ⟨Nat.le_of_ble_eq_true rfl, Nat.le_of_ble_eq_true rfl⟩ (fun r_203 u_204 H locs hr_203 hP hD hS => ?_)
              obtain ⟨q_205, rfl⟩ : ∃ z, z = u_204 := ⟨_, rfl⟩
              have h9R := zRe (ws' := [(mhe, .inl (cI, 8, .inl ghe)), (msi, .inl (cI, 8, .inl gsi)), (mce, .inl (cJ, 1280, .inr (.inl gce))), (mki, .inl (cI, 8, .inl gki)), (mpa, .inl (cI, 8, .inl gpa)), (zMO m0 npu nte nat_ nde nto nse nhu nga nsd nfa mrf mki mpa mta mla msl mco mhe mso msi msh mce mca mwo mnu mte nba npl nen nnu nwr mwa mke mma mth mtr nra nik), (mrf, .inl (cI, 8, .inl q_205))]) hP hD rfl
              clear hP hD
              obtain ⟨hP, hD⟩ := h9R
              obtain rfl := hr_203
              exact W.iret (v := (-1)) hx hb hr (fun t ht hW => ⟨⟨(-1), q_205, rfl, trivial, zRet ht hP hD [5, 6, 0, 1, 2, 3, 4] (by decide) rfl⟩, hS.F ht⟩) hS.2.2 dX8_behind_57
          · exact absurd c_201 (by decide)
      · refine lv_if_ne (tgt := 20) hx hb dX8_behind_13 (by decide) (fun c_206 => ?_) (fun c_206 => ?_)
        · refine lv_aload_n hx hb dX8_behind_20 rfl (lv_at hl 0 rfl) ?_
          refine lv_iload_n hx hb dX8_behind_21 rfl (lv_at hl 1 rfl) ?_
          refine zc_V (As := [.int s_]) (rest := []) ⟨hx, hb, hml, hown, hts⟩ (c_M_barsOf l D cI cJ cZ cP cS po m0 mrf mki mpa mta mla msl mco mhe mso msi msh mce mca mwo mnu mte mwa mke mma mth mtr (npu) (nte) (nat_) (nde) (nto) (nse) (nhu) (nga) (nsd) (nfa) (nba) (npl) (nen) (nnu) (nwr) (nra) (nik) ghe gsi gce (s_) hy0 hy1 hy2 hy3 hy4 hy5 hy6 hy7 hy8 hy9 hy10 hy11 hy12 hy13 hp_ghe hp_gsi) (cwV 1 hts gX8_behind_X8_barsOf rfl rfl rfl ⟨rfl, dh_X8_barsOf⟩ ⟨Nat.le_of_ble_eq_true rfl, Nat.le_of_ble_eq_true rfl⟩) hK hN (hZ.kept hS) hP (hP.sub [0, 2, 3, 4] rfl) (va_recv (q := (RX8, TX8, 38)) hK hP (ci := 8) (q0 := 0) rfl rfl) rfl hl.1 rfl (Nat.le_of_ble_eq_true rfl) dX8_behind_22 ⟨Nat.le_of_ble_eq_true rfl, Nat.le_of_ble_eq_true rfl⟩ (fun r_207 hr_207 => ?_)
          obtain ⟨g_208, g_209, hsr_207_0⟩ := hr_207
          refine lv_istore (lv' := [(4, .int r_207), (0, .ref m0), (1, .int s_), (2, .int p_), (3, .int to)]) hx hb dX8_behind_25 hl (by decide) rfl (fun ls hl => ?_)
          refine lv_iload hx hb dX8_behind_27 (lv_at hl 0 rfl) ?_
          refine lv_if_ne (tgt := 46) hx hb dX8_behind_29 (by decide) (fun c_210 => ?_) (fun c_210 => ?_)
          · have fc_210 : r_207.toInt ≠ 0 := zf_ne c_210 rfl (by decide)
            refine lv_iload hx hb dX8_behind_46 (lv_at hl 0 rfl) ?_
            refine lv_if_eq (tgt := 58) hx hb dX8_behind_48 (by decide) (fun c_211 => ?_) (fun c_211 => ?_)
            · exfalso; have fc_211 : r_207.toInt = 0 := zf_eq c_211 rfl (by decide); omega
            · have fc_211 : r_207.toInt ≠ 0 := zf_ne c_211 rfl (by decide)
              refine lv_aload_n hx hb dX8_behind_51 rfl (lv_at hl 1 rfl) ?_
              refine lv_iload hx hb dX8_behind_52 (lv_at hl 0 rfl) ?_
              skip
              refine zw_V (As := [.int r_207]) (rest := []) (wr := [(mhe, .inl (cI, 8, .inl ghe)), (msi, .inl (cI, 8, .inl gsi)), (mce, .inl (cJ, 1280, .inr (.inl gce))), (mki, .inl (cI, 8, .inl gki)), (mpa, .inl (cI, 8, .inl gpa))]) ⟨hx, hb, hml, hown, hts⟩ (c_M_no l D cI cJ cZ cP cS po m0 mrf mki mpa mta mla msl mco mhe mso msi msh mce mca mwo mnu mte mwa mke mma mth mtr (npu) (nte) (nat_) (nde) (nto) (nse) (nhu) (nga) (nsd) (nfa) (nba) (npl) (nen) (nnu) (nwr) (nra) (nik) grf (r_207) hy0 hy1 hy2 hy3 hy4 hy5 hy6 hy7 hy8 hy9 hy10 hy11 hy12 hy13 (by omega) (by omega) H.size) (cwV 1 hts gX8_behind_X8_no rfl rfl rfl ⟨rfl, dh_X8_no⟩ ⟨Nat.le_of_ble_eq_true rfl, Nat.le_of_ble_eq_true rfl⟩) hK hN (hZ.kept hS) hP hD hS hA [0, 1] [2, 3, 4, 5, 6] rfl rfl (by decide) (by decide) (by decide) (va_recv (q := (RX8, TX8, 38)) hK hP (ci := 8) (q0 := 0) rfl rfl) rfl hl.1 rfl (Nat.le_of_ble_eq_true rfl) dX8_behind_54 ⟨Nat.le_of_ble_eq_true rfl, Nat.le_of_ble_eq_true rfl⟩ (fun r_212 u_213 H locs hr_212 hP hD hS => ?_)
              obtain ⟨q_214, rfl⟩ : ∃ z, z = u_213 := ⟨_, rfl⟩
              have h9R := zRe (ws' := [(mhe, .inl (cI, 8, .inl ghe)), (msi, .inl (cI, 8, .inl gsi)), (mce, .inl (cJ, 1280, .inr (.inl gce))), (mki, .inl (cI, 8, .inl gki)), (mpa, .inl (cI, 8, .inl gpa)), (zMO m0 npu nte nat_ nde nto nse nhu nga nsd nfa mrf mki mpa mta mla msl mco mhe mso msi msh mce mca mwo mnu mte nba npl nen nnu nwr mwa mke mma mth mtr nra nik), (mrf, .inl (cI, 8, .inl q_214))]) hP hD rfl
              clear hP hD
              obtain ⟨hP, hD⟩ := h9R
              have w_215 := hr_212
              obtain rfl : r_207 = r_212 := w_215.symm
              exact W.iret (v := r_207) hx hb hr (fun t ht hW => ⟨⟨r_207, q_214, rfl, trivial, zRet ht hP hD [5, 6, 0, 1, 2, 3, 4] (by decide) rfl⟩, hS.F ht⟩) hS.2.2 dX8_behind_57
          · have fc_210 : r_207.toInt = 0 := zf_eq c_210 rfl (by decide)
            refine lv_iload_n hx hb dX8_behind_32 rfl (lv_at hl 4 rfl) ?_
            refine lv_if_lt (tgt := 42) hx hb dX8_behind_33 (by decide) (fun c_216 => ?_) (fun c_216 => ?_)
            · have fc_216 : to.toInt < 0 := zf_lt c_216 rfl (by decide)
              refine lv_bipush (v := (-6)) hx hb dX8_behind_42 (by decide) ?_
              refine lv_istore (lv' := [(4, .int (-6)), (0, .ref m0), (1, .int s_), (2, .int p_), (3, .int to)]) hx hb dX8_behind_44 hl (by decide) rfl (fun ls hl => ?_)
              refine lv_iload hx hb dX8_behind_46 (lv_at hl 0 rfl) ?_
              refine lv_if_eq (tgt := 58) hx hb dX8_behind_48 (by decide) (fun c_217 => ?_) (fun c_217 => ?_)
              · exact absurd c_217 (by decide)
              · refine lv_aload_n hx hb dX8_behind_51 rfl (lv_at hl 1 rfl) ?_
                refine lv_iload hx hb dX8_behind_52 (lv_at hl 0 rfl) ?_
                skip
                refine zw_V (As := [.int (-6)]) (rest := []) (wr := [(mhe, .inl (cI, 8, .inl ghe)), (msi, .inl (cI, 8, .inl gsi)), (mce, .inl (cJ, 1280, .inr (.inl gce))), (mki, .inl (cI, 8, .inl gki)), (mpa, .inl (cI, 8, .inl gpa))]) ⟨hx, hb, hml, hown, hts⟩ (c_M_no_6 l D cI cJ cZ cP cS po m0 mrf mki mpa mta mla msl mco mhe mso msi msh mce mca mwo mnu mte mwa mke mma mth mtr (npu) (nte) (nat_) (nde) (nto) (nse) (nhu) (nga) (nsd) (nfa) (nba) (npl) (nen) (nnu) (nwr) (nra) (nik) grf hy0 hy1 hy2 hy3 hy4 hy5 hy6 hy7 hy8 hy9 hy10 hy11 hy12 hy13 H.size) (cwV 1 hts gX8_behind_X8_no rfl rfl rfl ⟨rfl, dh_X8_no⟩ ⟨Nat.le_of_ble_eq_true rfl, Nat.le_of_ble_eq_true rfl⟩) hK hN (hZ.kept hS) hP hD hS hA [0, 1] [2, 3, 4, 5, 6] rfl rfl (by decide) (by decide) (by decide) (va_recv (q := (RX8, TX8, 38)) hK hP (ci := 8) (q0 := 0) rfl rfl) rfl hl.1 rfl (Nat.le_of_ble_eq_true rfl) dX8_behind_54 ⟨Nat.le_of_ble_eq_true rfl, Nat.le_of_ble_eq_true rfl⟩ (fun r_218 u_219 H locs hr_218 hP hD hS => ?_)
                obtain ⟨q_220, rfl⟩ : ∃ z, z = u_219 := ⟨_, rfl⟩
                have h9R := zRe (ws' := [(mhe, .inl (cI, 8, .inl ghe)), (msi, .inl (cI, 8, .inl gsi)), (mce, .inl (cJ, 1280, .inr (.inl gce))), (mki, .inl (cI, 8, .inl gki)), (mpa, .inl (cI, 8, .inl gpa)), (zMO m0 npu nte nat_ nde nto nse nhu nga nsd nfa mrf mki mpa mta mla msl mco mhe mso msi msh mce mca mwo mnu mte nba npl nen nnu nwr mwa mke mma mth mtr nra nik), (mrf, .inl (cI, 8, .inl q_220))]) hP hD rfl
                clear hP hD
                obtain ⟨hP, hD⟩ := h9R
                obtain rfl := hr_218
                exact W.iret (v := (-6)) hx hb hr (fun t ht hW => ⟨⟨(-6), q_220, rfl, trivial, zRet ht hP hD [5, 6, 0, 1, 2, 3, 4] (by decide) rfl⟩, hS.F ht⟩) hS.2.2 dX8_behind_57
            · have fc_216 : 0 ≤ to.toInt := zf_nlt c_216 rfl (by decide)
              refine lv_iload_n hx hb dX8_behind_36 rfl (lv_at hl 4 rfl) ?_
              refine lv_bipush (v := 24) hx hb dX8_behind_37 (by decide) ?_
              refine lv_icmp_le (tgt := 46) hx hb dX8_behind_39 (by decide) (fun c_221 => ?_) (fun c_221 => ?_)
              · have fc_221 : to.toInt ≤ 24 := zf_le c_221 rfl (by decide)
                refine lv_iload hx hb dX8_behind_46 (lv_at hl 0 rfl) ?_
                refine lv_if_eq (tgt := 58) hx hb dX8_behind_48 (by decide) (fun c_222 => ?_) (fun c_222 => ?_)
                · have fc_222 : r_207.toInt = 0 := zf_eq c_222 rfl (by decide)
                  refine lv_iload_n hx hb dX8_behind_58 rfl (lv_at hl 4 rfl) ?_
                  refine lv_if_ne (tgt := 74) hx hb dX8_behind_59 (by decide) (fun c_223 => ?_) (fun c_223 => ?_)
                  · have fc_223 : to.toInt ≠ 0 := zf_ne c_223 rfl (by decide)
                    refine lv_iconst (v := 0) hx hb dX8_behind_74 (by decide) ?_
                    refine lv_istore (lv' := [(5, .int 0), (4, .int r_207), (0, .ref m0), (1, .int s_), (2, .int p_), (3, .int to)]) hx hb dX8_behind_75 hl (by decide) rfl (fun ls hl => ?_)
                    refine lv_iconst (v := 1) hx hb dX8_behind_77 (by decide) ?_
                    refine lv_istore (lv' := [(6, .int 1), (5, .int 0), (4, .int r_207), (0, .ref m0), (1, .int s_), (2, .int p_), (3, .int to)]) hx hb dX8_behind_78 hl (by decide) rfl (fun ls hl => ?_)
                    obtain ⟨i_80, hi_80⟩ : ∃ i : Int32, i = 1 := ⟨_, rfl⟩
                    replace hl : lv_has ls 8 [(6, .int i_80), (5, .int 0), (0, .ref m0), (1, .int s_), (2, .int p_), (3, .int to)] := by rw [hi_80]; exact lv_sub hl [0, 1, 3, 4, 5, 6] rfl
                    have h1i_80 : i_80.toInt = 1 := by rw [hi_80]; decide
                    obtain ⟨nfu, hni_80⟩ : ∃ nq9 : Nat, 25 ≤ i_80.toInt + (nq9 : Int) := ⟨((25 : Int) - 1).toNat, by omega⟩
                    have hloi_80 : 1 ≤ i_80.toInt := by omega
                    obtain ⟨v_224, hv_224⟩ : ∃ g : Int32, g = 0 := ⟨_, rfl⟩
                    replace hl : lv_has ls 8 [(6, .int i_80), (5, .int v_224), (0, .ref m0), (1, .int s_), (2, .int p_), (3, .int to)] := by rw [hv_224]; exact hl
                    clear h1i_80 hi_80 hv_224
                    skip
                    revert hni_80
                    revert hloi_80
                    revert hl
                    revert hS
                    revert hD
                    revert hP
                    revert ls
                    revert locs
                    revert H
                    revert v_224
                    revert i_80
                    induction nfu with
                    | zero =>
                      intro i_80 v_224 H locs ls hP hD hS hl hloi_80 hni_80
                      have hzi_80 : 25 ≤ i_80.toInt := by omega
                      refine lv_iload hx hb dX8_behind_80 (lv_at hl 0 rfl) ?_
                      refine lv_bipush (v := 24) hx hb dX8_behind_82 (by decide) ?_
                      refine lv_icmp_gt (tgt := 159) hx hb dX8_behind_84 (by decide) (fun c_225 => ?_) (fun c_225 => ?_)
                      · have fc_225 : 24 < i_80.toInt := zf_lt c_225 (by decide) rfl
                        refine lv_iload hx hb dX8_behind_159 (lv_at hl 1 rfl) ?_
                        exact W.iret (v := v_224) hx hb hr (fun t ht hW => ⟨⟨v_224, grf, rfl, trivial, zRet ht hP hD [0, 1, 2, 3, 4, 5, 6] (by decide) rfl⟩, hS.F ht⟩) hS.2.2 dX8_behind_161
                      · exfalso; have fc_225 : i_80.toInt ≤ 24 := zf_nlt c_225 (by decide) rfl; omega
                    | succ nfu ih =>
                      intro i_80 v_224 H locs ls hP hD hS hl hloi_80 hni_80
                      refine lv_iload hx hb dX8_behind_80 (lv_at hl 0 rfl) ?_
                      refine lv_bipush (v := 24) hx hb dX8_behind_82 (by decide) ?_
                      refine lv_icmp_gt (tgt := 159) hx hb dX8_behind_84 (by decide) (fun c_226 => ?_) (fun c_226 => ?_)
                      · have fc_226 : 24 < i_80.toInt := zf_lt c_226 (by decide) rfl
                        refine lv_iload hx hb dX8_behind_159 (lv_at hl 1 rfl) ?_
                        exact W.iret (v := v_224) hx hb hr (fun t ht hW => ⟨⟨v_224, grf, rfl, trivial, zRet ht hP hD [0, 1, 2, 3, 4, 5, 6] (by decide) rfl⟩, hS.F ht⟩) hS.2.2 dX8_behind_161
                      · have fc_226 : i_80.toInt ≤ 24 := zf_nlt c_226 (by decide) rfl
                        refine lv_aload_n hx hb dX8_behind_87 rfl (lv_at hl 2 rfl) ?_
                        refine lv_iload_n hx hb dX8_behind_88 rfl (lv_at hl 4 rfl) ?_
                        refine lv_iload hx hb dX8_behind_89 (lv_at hl 0 rfl) ?_
                        refine zc_V (As := [.int p_, .int i_80]) (rest := []) ⟨hx, hb, hml, hown, hts⟩ (c_M_ways l D cI cJ cZ cP cS po m0 mrf mki mpa mta mla msl mco mhe mso msi msh mce mca mwo mnu mte mwa mke mma mth mtr (npu) (nte) (nat_) (nde) (nto) (nse) (nhu) (nga) (nsd) (nfa) (nba) (npl) (nen) (nnu) (nwr) (nra) (nik) gki gpa (p_) (i_80) hy0 hy1 hy2 hy3 hy4 hy5 hy6 hy7 hy8 hy9 hy10 hy11 hy12 hy13 (by omega) (by omega) hp_gki hp_gpa) (cwV 2 hts gX8_behind_X8_ways rfl rfl rfl ⟨rfl, dh_X8_ways⟩ ⟨Nat.le_of_ble_eq_true rfl, Nat.le_of_ble_eq_true rfl⟩) hK hN (hZ.kept hS) hP (hP.sub [0, 5, 6] rfl) (va_recv (q := (RX8, TX8, 38)) hK hP (ci := 8) (q0 := 0) rfl rfl) rfl hl.1 rfl (Nat.le_of_ble_eq_true rfl) dX8_behind_91 ⟨Nat.le_of_ble_eq_true rfl, Nat.le_of_ble_eq_true rfl⟩ (fun r_227 hr_227 => ?_)
                        obtain ⟨g_228, g_229⟩ := hr_227
                        refine lv_istore (lv' := [(7, .int r_227), (6, .int i_80), (5, .int v_224), (0, .ref m0), (1, .int s_), (2, .int p_), (3, .int to)]) hx hb dX8_behind_94 hl (by decide) rfl (fun ls hl => ?_)
                        refine lv_aload_n hx hb dX8_behind_96 rfl (lv_at hl 3 rfl) ?_
                        refine lv_iload_n hx hb dX8_behind_97 rfl (lv_at hl 5 rfl) ?_
                        refine lv_iload hx hb dX8_behind_98 (lv_at hl 1 rfl) ?_
                        refine lv_iconst (v := 1) hx hb dX8_behind_100 (by decide) ?_
                        refine zc_V (As := [.int p_, .int i_80, .int 1]) (rest := []) ⟨hx, hb, hml, hown, hts⟩ (c_M_deep l D cI cJ cZ cP cS po m0 mrf mki mpa mta mla msl mco mhe mso msi msh mce mca mwo mnu mte mwa mke mma mth mtr (npu) (nte) (nat_) (nde) (nto) (nse) (nhu) (nga) (nsd) (nfa) (nba) (npl) (nen) (nnu) (nwr) (nra) (nik) gki gpa (p_) (i_80) (1) hy0 hy1 hy2 hy3 hy4 hy5 hy6 hy7 hy8 hy9 hy10 hy11 hy12 hy13 (by omega) (by omega) (by omega) (by omega) hp_gki hp_gpa) (cwV 3 hts gX8_behind_X8_deep rfl rfl rfl ⟨rfl, dh_X8_deep⟩ ⟨Nat.le_of_ble_eq_true rfl, Nat.le_of_ble_eq_true rfl⟩) hK hN (hZ.kept hS) hP (hP.sub [0, 5, 6] rfl) (va_recv (q := (RX8, TX8, 38)) hK hP (ci := 8) (q0 := 0) rfl rfl) rfl hl.1 rfl (Nat.le_of_ble_eq_true rfl) dX8_behind_101 ⟨Nat.le_of_ble_eq_true rfl, Nat.le_of_ble_eq_true rfl⟩ (fun r_230 hr_230 => ?_)
                        obtain ⟨g_231, g_232⟩ := hr_230
                        refine lv_iload_n hx hb dX8_behind_104 rfl (lv_at hl 6 rfl) ?_
                        refine lv_icmp_ne (tgt := 123) hx hb dX8_behind_105 (by decide) (fun c_233 => ?_) (fun c_233 => ?_)
                        · have fc_233 : r_230.toInt ≠ to.toInt := zf_ne c_233 rfl rfl
                          refine lv_aload_n hx hb dX8_behind_123 rfl (lv_at hl 3 rfl) ?_
                          refine lv_iload_n hx hb dX8_behind_124 rfl (lv_at hl 5 rfl) ?_
                          refine lv_iload hx hb dX8_behind_125 (lv_at hl 1 rfl) ?_
                          refine lv_iconst (v := 0) hx hb dX8_behind_127 (by decide) ?_
                          refine zc_V (As := [.int p_, .int i_80, .int 0]) (rest := []) ⟨hx, hb, hml, hown, hts⟩ (c_M_deep l D cI cJ cZ cP cS po m0 mrf mki mpa mta mla msl mco mhe mso msi msh mce mca mwo mnu mte mwa mke mma mth mtr (npu) (nte) (nat_) (nde) (nto) (nse) (nhu) (nga) (nsd) (nfa) (nba) (npl) (nen) (nnu) (nwr) (nra) (nik) gki gpa (p_) (i_80) (0) hy0 hy1 hy2 hy3 hy4 hy5 hy6 hy7 hy8 hy9 hy10 hy11 hy12 hy13 (by omega) (by omega) (by omega) (by omega) hp_gki hp_gpa) (cwV 3 hts gX8_behind_X8_deep rfl rfl rfl ⟨rfl, dh_X8_deep⟩ ⟨Nat.le_of_ble_eq_true rfl, Nat.le_of_ble_eq_true rfl⟩) hK hN (hZ.kept hS) hP (hP.sub [0, 5, 6] rfl) (va_recv (q := (RX8, TX8, 38)) hK hP (ci := 8) (q0 := 0) rfl rfl) rfl hl.1 rfl (Nat.le_of_ble_eq_true rfl) dX8_behind_128 ⟨Nat.le_of_ble_eq_true rfl, Nat.le_of_ble_eq_true rfl⟩ (fun r_234 hr_234 => ?_)
                          obtain ⟨g_235, g_236⟩ := hr_234
                          refine lv_iload_n hx hb dX8_behind_131 rfl (lv_at hl 6 rfl) ?_
                          refine lv_icmp_ne (tgt := 153) hx hb dX8_behind_132 (by decide) (fun c_237 => ?_) (fun c_237 => ?_)
                          · have fc_237 : r_234.toInt ≠ to.toInt := zf_ne c_237 rfl rfl
                            obtain ⟨x_238, ex_238⟩ : ∃ y : Int32, y = i_80 + 1 := ⟨_, rfl⟩
                            have qx_238 : x_238.toInt = i_80.toInt + 1 := by rw [ex_238]; exact zf_add rfl (by decide) (by omega) (by omega)
                            refine lv_iinc (v := x_238) (lv' := [(6, .int x_238), (7, .int r_227), (5, .int v_224), (0, .ref m0), (1, .int s_), (2, .int p_), (3, .int to)]) hx hb dX8_behind_153 hl (k := 1) rfl ex_238.symm (by decide) rfl (fun ls hl => ?_)
                            refine lv_goto (tgt := 80) hx hb dX8_behind_156 (by decide) ?_
                            exact ih x_238 v_224 _ _ _ (hP.sub [0, 1, 2, 3, 4, 5, 6] rfl) (hD.sub [0, 1, 2, 3, 4, 5, 6] (by decide) rfl) hS (lv_sub hl [0, 2, 3, 4, 5, 6] rfl) (dw_lo hloi_80 qx_238) (dw_hn hni_80 qx_238)
                          · have fc_237 : r_234.toInt = to.toInt := zf_eq c_237 rfl rfl
                            refine lv_iload hx hb dX8_behind_135 (lv_at hl 2 rfl) ?_
                            refine lv_bipush (v := 12) hx hb dX8_behind_137 (by decide) ?_
                            refine lv_iload hx hb dX8_behind_139 (lv_at hl 0 rfl) ?_
                            refine lv_isub hx hb dX8_behind_141 ?_
                            refine lv_topi (fun x_239 ex_239 => ?_)
                            have qx_239 : x_239.toInt = 12 - r_227.toInt := by rw [ex_239]; exact zf_sub (by decide) rfl (by omega) (by omega)
                            refine lv_aload_n hx hb dX8_behind_142 rfl (lv_at hl 3 rfl) ?_
                            refine lv_iload_n hx hb dX8_behind_143 rfl (lv_at hl 4 rfl) ?_
                            refine lv_iload hx hb dX8_behind_144 (lv_at hl 1 rfl) ?_
                            refine zc_V (As := [.int s_, .int i_80]) (rest := [.int x_239, .int v_224]) ⟨hx, hb, hml, hown, hts⟩ (c_M_intAt l D cI cJ cZ cP cS po m0 mrf mki mpa mta mla msl mco mhe mso msi msh mce mca mwo mnu mte mwa mke mma mth mtr (npu) (nte) (nat_) (nde) (nto) (nse) (nhu) (nga) (nsd) (nfa) (nba) (npl) (nen) (nnu) (nwr) (nra) (nik) gce (s_) (i_80) hy0 hy1 hy2 hy3 hy4 hy5 hy6 hy7 hy8 hy9 hy10 hy11 hy12 hy13 (by omega) (by omega) (by omega) (by omega)) (cwV 2 hts gX8_behind_X8_intAt rfl rfl rfl ⟨rfl, dh_X8_intAt⟩ ⟨Nat.le_of_ble_eq_true rfl, Nat.le_of_ble_eq_true rfl⟩) hK hN (hZ.kept hS) hP (hP.sub [0, 4] rfl) (va_recv (q := (RX8, TX8, 38)) hK hP (ci := 8) (q0 := 0) rfl rfl) rfl hl.1 rfl (Nat.le_of_ble_eq_true rfl) dX8_behind_146 ⟨Nat.le_of_ble_eq_true rfl, Nat.le_of_ble_eq_true rfl⟩ (fun r_240 hr_240 => ?_)
                            refine lv_imul hx hb dX8_behind_149 ?_
                            refine lv_topi (fun x_241 ex_241 => ?_)
                            refine lv_iadd hx hb dX8_behind_150 ?_
                            refine lv_topi (fun x_242 ex_242 => ?_)
                            refine lv_istore (lv' := [(5, .int x_242), (7, .int r_227), (6, .int i_80), (0, .ref m0), (1, .int s_), (2, .int p_), (3, .int to)]) hx hb dX8_behind_151 hl (by decide) rfl (fun ls hl => ?_)
                            obtain ⟨x_243, ex_243⟩ : ∃ y : Int32, y = i_80 + 1 := ⟨_, rfl⟩
                            have qx_243 : x_243.toInt = i_80.toInt + 1 := by rw [ex_243]; exact zf_add rfl (by decide) (by omega) (by omega)
                            refine lv_iinc (v := x_243) (lv' := [(6, .int x_243), (5, .int x_242), (7, .int r_227), (0, .ref m0), (1, .int s_), (2, .int p_), (3, .int to)]) hx hb dX8_behind_153 hl (k := 2) rfl ex_243.symm (by decide) rfl (fun ls hl => ?_)
                            refine lv_goto (tgt := 80) hx hb dX8_behind_156 (by decide) ?_
                            exact ih x_243 x_242 _ _ _ (hP.sub [0, 1, 2, 3, 4, 5, 6] rfl) (hD.sub [0, 1, 2, 3, 4, 5, 6] (by decide) rfl) hS (lv_sub hl [0, 1, 3, 4, 5, 6] rfl) (dw_lo hloi_80 qx_243) (dw_hn hni_80 qx_243)
                        · have fc_233 : r_230.toInt = to.toInt := zf_eq c_233 rfl rfl
                          refine lv_iload hx hb dX8_behind_108 (lv_at hl 2 rfl) ?_
                          refine lv_iload hx hb dX8_behind_110 (lv_at hl 0 rfl) ?_
                          refine lv_aload_n hx hb dX8_behind_112 rfl (lv_at hl 3 rfl) ?_
                          refine lv_iload_n hx hb dX8_behind_113 rfl (lv_at hl 4 rfl) ?_
                          refine lv_iload hx hb dX8_behind_114 (lv_at hl 1 rfl) ?_
                          refine zc_V (As := [.int s_, .int i_80]) (rest := [.int r_227, .int v_224]) ⟨hx, hb, hml, hown, hts⟩ (c_M_intAt l D cI cJ cZ cP cS po m0 mrf mki mpa mta mla msl mco mhe mso msi msh mce mca mwo mnu mte mwa mke mma mth mtr (npu) (nte) (nat_) (nde) (nto) (nse) (nhu) (nga) (nsd) (nfa) (nba) (npl) (nen) (nnu) (nwr) (nra) (nik) gce (s_) (i_80) hy0 hy1 hy2 hy3 hy4 hy5 hy6 hy7 hy8 hy9 hy10 hy11 hy12 hy13 (by omega) (by omega) (by omega) (by omega)) (cwV 2 hts gX8_behind_X8_intAt rfl rfl rfl ⟨rfl, dh_X8_intAt⟩ ⟨Nat.le_of_ble_eq_true rfl, Nat.le_of_ble_eq_true rfl⟩) hK hN (hZ.kept hS) hP (hP.sub [0, 4] rfl) (va_recv (q := (RX8, TX8, 38)) hK hP (ci := 8) (q0 := 0) rfl rfl) rfl hl.1 rfl (Nat.le_of_ble_eq_true rfl) dX8_behind_116 ⟨Nat.le_of_ble_eq_true rfl, Nat.le_of_ble_eq_true rfl⟩ (fun r_244 hr_244 => ?_)
                          refine lv_imul hx hb dX8_behind_119 ?_
                          refine lv_topi (fun x_245 ex_245 => ?_)
                          refine lv_iadd hx hb dX8_behind_120 ?_
                          refine lv_topi (fun x_246 ex_246 => ?_)
                          refine lv_istore (lv' := [(5, .int x_246), (7, .int r_227), (6, .int i_80), (0, .ref m0), (1, .int s_), (2, .int p_), (3, .int to)]) hx hb dX8_behind_121 hl (by decide) rfl (fun ls hl => ?_)
                          refine lv_aload_n hx hb dX8_behind_123 rfl (lv_at hl 3 rfl) ?_
                          refine lv_iload_n hx hb dX8_behind_124 rfl (lv_at hl 5 rfl) ?_
                          refine lv_iload hx hb dX8_behind_125 (lv_at hl 2 rfl) ?_
                          refine lv_iconst (v := 0) hx hb dX8_behind_127 (by decide) ?_
                          refine zc_V (As := [.int p_, .int i_80, .int 0]) (rest := []) ⟨hx, hb, hml, hown, hts⟩ (c_M_deep l D cI cJ cZ cP cS po m0 mrf mki mpa mta mla msl mco mhe mso msi msh mce mca mwo mnu mte mwa mke mma mth mtr (npu) (nte) (nat_) (nde) (nto) (nse) (nhu) (nga) (nsd) (nfa) (nba) (npl) (nen) (nnu) (nwr) (nra) (nik) gki gpa (p_) (i_80) (0) hy0 hy1 hy2 hy3 hy4 hy5 hy6 hy7 hy8 hy9 hy10 hy11 hy12 hy13 (by omega) (by omega) (by omega) (by omega) hp_gki hp_gpa) (cwV 3 hts gX8_behind_X8_deep rfl rfl rfl ⟨rfl, dh_X8_deep⟩ ⟨Nat.le_of_ble_eq_true rfl, Nat.le_of_ble_eq_true rfl⟩) hK hN (hZ.kept hS) hP (hP.sub [0, 5, 6] rfl) (va_recv (q := (RX8, TX8, 38)) hK hP (ci := 8) (q0 := 0) rfl rfl) rfl hl.1 rfl (Nat.le_of_ble_eq_true rfl) dX8_behind_128 ⟨Nat.le_of_ble_eq_true rfl, Nat.le_of_ble_eq_true rfl⟩ (fun r_247 hr_247 => ?_)
                          obtain ⟨g_248, g_249⟩ := hr_247
                          refine lv_iload_n hx hb dX8_behind_131 rfl (lv_at hl 6 rfl) ?_
                          refine lv_icmp_ne (tgt := 153) hx hb dX8_behind_132 (by decide) (fun c_250 => ?_) (fun c_250 => ?_)
                          · have fc_250 : r_247.toInt ≠ to.toInt := zf_ne c_250 rfl rfl
                            obtain ⟨x_251, ex_251⟩ : ∃ y : Int32, y = i_80 + 1 := ⟨_, rfl⟩
                            have qx_251 : x_251.toInt = i_80.toInt + 1 := by rw [ex_251]; exact zf_add rfl (by decide) (by omega) (by omega)
                            refine lv_iinc (v := x_251) (lv' := [(6, .int x_251), (5, .int x_246), (7, .int r_227), (0, .ref m0), (1, .int s_), (2, .int p_), (3, .int to)]) hx hb dX8_behind_153 hl (k := 2) rfl ex_251.symm (by decide) rfl (fun ls hl => ?_)
                            refine lv_goto (tgt := 80) hx hb dX8_behind_156 (by decide) ?_
                            exact ih x_251 x_246 _ _ _ (hP.sub [0, 1, 2, 3, 4, 5, 6] rfl) (hD.sub [0, 1, 2, 3, 4, 5, 6] (by decide) rfl) hS (lv_sub hl [0, 1, 3, 4, 5, 6] rfl) (dw_lo hloi_80 qx_251) (dw_hn hni_80 qx_251)
                          · have fc_250 : r_247.toInt = to.toInt := zf_eq c_250 rfl rfl
                            refine lv_iload hx hb dX8_behind_135 (lv_at hl 0 rfl) ?_
                            refine lv_bipush (v := 12) hx hb dX8_behind_137 (by decide) ?_
                            refine lv_iload hx hb dX8_behind_139 (lv_at hl 1 rfl) ?_
                            refine lv_isub hx hb dX8_behind_141 ?_
                            refine lv_topi (fun x_252 ex_252 => ?_)
                            have qx_252 : x_252.toInt = 12 - r_227.toInt := by rw [ex_252]; exact zf_sub (by decide) rfl (by omega) (by omega)
                            refine lv_aload_n hx hb dX8_behind_142 rfl (lv_at hl 3 rfl) ?_
                            refine lv_iload_n hx hb dX8_behind_143 rfl (lv_at hl 4 rfl) ?_
                            refine lv_iload hx hb dX8_behind_144 (lv_at hl 2 rfl) ?_
                            refine zc_V (As := [.int s_, .int i_80]) (rest := [.int x_252, .int x_246]) ⟨hx, hb, hml, hown, hts⟩ (c_M_intAt l D cI cJ cZ cP cS po m0 mrf mki mpa mta mla msl mco mhe mso msi msh mce mca mwo mnu mte mwa mke mma mth mtr (npu) (nte) (nat_) (nde) (nto) (nse) (nhu) (nga) (nsd) (nfa) (nba) (npl) (nen) (nnu) (nwr) (nra) (nik) gce (s_) (i_80) hy0 hy1 hy2 hy3 hy4 hy5 hy6 hy7 hy8 hy9 hy10 hy11 hy12 hy13 (by omega) (by omega) (by omega) (by omega)) (cwV 2 hts gX8_behind_X8_intAt rfl rfl rfl ⟨rfl, dh_X8_intAt⟩ ⟨Nat.le_of_ble_eq_true rfl, Nat.le_of_ble_eq_true rfl⟩) hK hN (hZ.kept hS) hP (hP.sub [0, 4] rfl) (va_recv (q := (RX8, TX8, 38)) hK hP (ci := 8) (q0 := 0) rfl rfl) rfl hl.1 rfl (Nat.le_of_ble_eq_true rfl) dX8_behind_146 ⟨Nat.le_of_ble_eq_true rfl, Nat.le_of_ble_eq_true rfl⟩ (fun r_253 hr_253 => ?_)
                            refine lv_imul hx hb dX8_behind_149 ?_
                            refine lv_topi (fun x_254 ex_254 => ?_)
                            refine lv_iadd hx hb dX8_behind_150 ?_
                            refine lv_topi (fun x_255 ex_255 => ?_)
                            refine lv_istore (lv' := [(5, .int x_255), (7, .int r_227), (6, .int i_80), (0, .ref m0), (1, .int s_), (2, .int p_), (3, .int to)]) hx hb dX8_behind_151 hl (by decide) rfl (fun ls hl => ?_)
                            obtain ⟨x_256, ex_256⟩ : ∃ y : Int32, y = i_80 + 1 := ⟨_, rfl⟩
                            have qx_256 : x_256.toInt = i_80.toInt + 1 := by rw [ex_256]; exact zf_add rfl (by decide) (by omega) (by omega)
                            refine lv_iinc (v := x_256) (lv' := [(6, .int x_256), (5, .int x_255), (7, .int r_227), (0, .ref m0), (1, .int s_), (2, .int p_), (3, .int to)]) hx hb dX8_behind_153 hl (k := 2) rfl ex_256.symm (by decide) rfl (fun ls hl => ?_)
                            refine lv_goto (tgt := 80) hx hb dX8_behind_156 (by decide) ?_
                            exact ih x_256 x_255 _ _ _ (hP.sub [0, 1, 2, 3, 4, 5, 6] rfl) (hD.sub [0, 1, 2, 3, 4, 5, 6] (by decide) rfl) hS (lv_sub hl [0, 1, 3, 4, 5, 6] rfl) (dw_lo hloi_80 qx_256) (dw_hn hni_80 qx_256)
                  · have fc_223 : to.toInt = 0 := zf_eq c_223 rfl (by decide)
                    refine lv_bipush (v := 12) hx hb dX8_behind_62 (by decide) ?_
                    refine lv_aload_n hx hb dX8_behind_64 rfl (lv_at hl 1 rfl) ?_
                    refine lv_iload_n hx hb dX8_behind_65 rfl (lv_at hl 2 rfl) ?_
                    refine lv_iconst (v := 0) hx hb dX8_behind_66 (by decide) ?_
                    have kc0 : (0 : Int32).toInt = 0 := by decide
                    refine zc_V (As := [.int s_, .int 0]) (rest := [.int 12]) ⟨hx, hb, hml, hown, hts⟩ (c_M_intAt l D cI cJ cZ cP cS po m0 mrf mki mpa mta mla msl mco mhe mso msi msh mce mca mwo mnu mte mwa mke mma mth mtr (npu) (nte) (nat_) (nde) (nto) (nse) (nhu) (nga) (nsd) (nfa) (nba) (npl) (nen) (nnu) (nwr) (nra) (nik) gce (s_) (0) hy0 hy1 hy2 hy3 hy4 hy5 hy6 hy7 hy8 hy9 hy10 hy11 hy12 hy13 (by omega) (by omega) (by omega) (by omega)) (cwV 2 hts gX8_behind_X8_intAt rfl rfl rfl ⟨rfl, dh_X8_intAt⟩ ⟨Nat.le_of_ble_eq_true rfl, Nat.le_of_ble_eq_true rfl⟩) hK hN (hZ.kept hS) hP (hP.sub [0, 4] rfl) (va_recv (q := (RX8, TX8, 38)) hK hP (ci := 8) (q0 := 0) rfl rfl) rfl hl.1 rfl (Nat.le_of_ble_eq_true rfl) dX8_behind_67 ⟨Nat.le_of_ble_eq_true rfl, Nat.le_of_ble_eq_true rfl⟩ (fun r_257 hr_257 => ?_)
                    refine lv_imul hx hb dX8_behind_70 ?_
                    refine lv_topi (fun x_258 ex_258 => ?_)
                    refine lv_goto (tgt := 75) hx hb dX8_behind_71 (by decide) ?_
                    refine lv_istore (lv' := [(5, .int x_258), (4, .int r_207), (0, .ref m0), (1, .int s_), (2, .int p_), (3, .int to)]) hx hb dX8_behind_75 hl (by decide) rfl (fun ls hl => ?_)
                    refine lv_iconst (v := 1) hx hb dX8_behind_77 (by decide) ?_
                    refine lv_istore (lv' := [(6, .int 1), (5, .int x_258), (4, .int r_207), (0, .ref m0), (1, .int s_), (2, .int p_), (3, .int to)]) hx hb dX8_behind_78 hl (by decide) rfl (fun ls hl => ?_)
                    obtain ⟨i_80, hi_80⟩ : ∃ i : Int32, i = 1 := ⟨_, rfl⟩
                    replace hl : lv_has ls 8 [(6, .int i_80), (5, .int x_258), (0, .ref m0), (1, .int s_), (2, .int p_), (3, .int to)] := by rw [hi_80]; exact lv_sub hl [0, 1, 3, 4, 5, 6] rfl
                    have h1i_80 : i_80.toInt = 1 := by rw [hi_80]; decide
                    obtain ⟨nfu, hni_80⟩ : ∃ nq9 : Nat, 25 ≤ i_80.toInt + (nq9 : Int) := ⟨((25 : Int) - 1).toNat, by omega⟩
                    have hloi_80 : 1 ≤ i_80.toInt := by omega
                    obtain ⟨v_259, hv_259⟩ : ∃ g : Int32, g = x_258 := ⟨_, rfl⟩
                    replace hl : lv_has ls 8 [(6, .int i_80), (5, .int v_259), (0, .ref m0), (1, .int s_), (2, .int p_), (3, .int to)] := by rw [hv_259]; exact hl
                    clear h1i_80 hi_80 hv_259
                    skip
                    revert hni_80
                    revert hloi_80
                    revert hl
                    revert hS
                    revert hD
                    revert hP
                    revert ls
                    revert locs
                    revert H
                    revert v_259
                    revert i_80
                    induction nfu with
                    | zero =>
                      intro i_80 v_259 H locs ls hP hD hS hl hloi_80 hni_80
                      have hzi_80 : 25 ≤ i_80.toInt := by omega
                      refine lv_iload hx hb dX8_behind_80 (lv_at hl 0 rfl) ?_
                      refine lv_bipush (v := 24) hx hb dX8_behind_82 (by decide) ?_
                      refine lv_icmp_gt (tgt := 159) hx hb dX8_behind_84 (by decide) (fun c_260 => ?_) (fun c_260 => ?_)
                      · have fc_260 : 24 < i_80.toInt := zf_lt c_260 (by decide) rfl
                        refine lv_iload hx hb dX8_behind_159 (lv_at hl 1 rfl) ?_
                        exact W.iret (v := v_259) hx hb hr (fun t ht hW => ⟨⟨v_259, grf, rfl, trivial, zRet ht hP hD [0, 1, 2, 3, 4, 5, 6] (by decide) rfl⟩, hS.F ht⟩) hS.2.2 dX8_behind_161
                      · exfalso; have fc_260 : i_80.toInt ≤ 24 := zf_nlt c_260 (by decide) rfl; omega
                    | succ nfu ih =>
                      intro i_80 v_259 H locs ls hP hD hS hl hloi_80 hni_80
                      refine lv_iload hx hb dX8_behind_80 (lv_at hl 0 rfl) ?_
                      refine lv_bipush (v := 24) hx hb dX8_behind_82 (by decide) ?_
                      refine lv_icmp_gt (tgt := 159) hx hb dX8_behind_84 (by decide) (fun c_261 => ?_) (fun c_261 => ?_)
                      · have fc_261 : 24 < i_80.toInt := zf_lt c_261 (by decide) rfl
                        refine lv_iload hx hb dX8_behind_159 (lv_at hl 1 rfl) ?_
                        exact W.iret (v := v_259) hx hb hr (fun t ht hW => ⟨⟨v_259, grf, rfl, trivial, zRet ht hP hD [0, 1, 2, 3, 4, 5, 6] (by decide) rfl⟩, hS.F ht⟩) hS.2.2 dX8_behind_161
                      · have fc_261 : i_80.toInt ≤ 24 := zf_nlt c_261 (by decide) rfl
                        refine lv_aload_n hx hb dX8_behind_87 rfl (lv_at hl 2 rfl) ?_
                        refine lv_iload_n hx hb dX8_behind_88 rfl (lv_at hl 4 rfl) ?_
                        refine lv_iload hx hb dX8_behind_89 (lv_at hl 0 rfl) ?_
                        refine zc_V (As := [.int p_, .int i_80]) (rest := []) ⟨hx, hb, hml, hown, hts⟩ (c_M_ways l D cI cJ cZ cP cS po m0 mrf mki mpa mta mla msl mco mhe mso msi msh mce mca mwo mnu mte mwa mke mma mth mtr (npu) (nte) (nat_) (nde) (nto) (nse) (nhu) (nga) (nsd) (nfa) (nba) (npl) (nen) (nnu) (nwr) (nra) (nik) gki gpa (p_) (i_80) hy0 hy1 hy2 hy3 hy4 hy5 hy6 hy7 hy8 hy9 hy10 hy11 hy12 hy13 (by omega) (by omega) hp_gki hp_gpa) (cwV 2 hts gX8_behind_X8_ways rfl rfl rfl ⟨rfl, dh_X8_ways⟩ ⟨Nat.le_of_ble_eq_true rfl, Nat.le_of_ble_eq_true rfl⟩) hK hN (hZ.kept hS) hP (hP.sub [0, 5, 6] rfl) (va_recv (q := (RX8, TX8, 38)) hK hP (ci := 8) (q0 := 0) rfl rfl) rfl hl.1 rfl (Nat.le_of_ble_eq_true rfl) dX8_behind_91 ⟨Nat.le_of_ble_eq_true rfl, Nat.le_of_ble_eq_true rfl⟩ (fun r_262 hr_262 => ?_)
                        obtain ⟨g_263, g_264⟩ := hr_262
                        refine lv_istore (lv' := [(7, .int r_262), (6, .int i_80), (5, .int v_259), (0, .ref m0), (1, .int s_), (2, .int p_), (3, .int to)]) hx hb dX8_behind_94 hl (by decide) rfl (fun ls hl => ?_)
                        refine lv_aload_n hx hb dX8_behind_96 rfl (lv_at hl 3 rfl) ?_
                        refine lv_iload_n hx hb dX8_behind_97 rfl (lv_at hl 5 rfl) ?_
                        refine lv_iload hx hb dX8_behind_98 (lv_at hl 1 rfl) ?_
                        refine lv_iconst (v := 1) hx hb dX8_behind_100 (by decide) ?_
                        refine zc_V (As := [.int p_, .int i_80, .int 1]) (rest := []) ⟨hx, hb, hml, hown, hts⟩ (c_M_deep l D cI cJ cZ cP cS po m0 mrf mki mpa mta mla msl mco mhe mso msi msh mce mca mwo mnu mte mwa mke mma mth mtr (npu) (nte) (nat_) (nde) (nto) (nse) (nhu) (nga) (nsd) (nfa) (nba) (npl) (nen) (nnu) (nwr) (nra) (nik) gki gpa (p_) (i_80) (1) hy0 hy1 hy2 hy3 hy4 hy5 hy6 hy7 hy8 hy9 hy10 hy11 hy12 hy13 (by omega) (by omega) (by omega) (by omega) hp_gki hp_gpa) (cwV 3 hts gX8_behind_X8_deep rfl rfl rfl ⟨rfl, dh_X8_deep⟩ ⟨Nat.le_of_ble_eq_true rfl, Nat.le_of_ble_eq_true rfl⟩) hK hN (hZ.kept hS) hP (hP.sub [0, 5, 6] rfl) (va_recv (q := (RX8, TX8, 38)) hK hP (ci := 8) (q0 := 0) rfl rfl) rfl hl.1 rfl (Nat.le_of_ble_eq_true rfl) dX8_behind_101 ⟨Nat.le_of_ble_eq_true rfl, Nat.le_of_ble_eq_true rfl⟩ (fun r_265 hr_265 => ?_)
                        obtain ⟨g_266, g_267⟩ := hr_265
                        refine lv_iload_n hx hb dX8_behind_104 rfl (lv_at hl 6 rfl) ?_
                        refine lv_icmp_ne (tgt := 123) hx hb dX8_behind_105 (by decide) (fun c_268 => ?_) (fun c_268 => ?_)
                        · have fc_268 : r_265.toInt ≠ to.toInt := zf_ne c_268 rfl rfl
                          refine lv_aload_n hx hb dX8_behind_123 rfl (lv_at hl 3 rfl) ?_
                          refine lv_iload_n hx hb dX8_behind_124 rfl (lv_at hl 5 rfl) ?_
                          refine lv_iload hx hb dX8_behind_125 (lv_at hl 1 rfl) ?_
                          refine lv_iconst (v := 0) hx hb dX8_behind_127 (by decide) ?_
                          refine zc_V (As := [.int p_, .int i_80, .int 0]) (rest := []) ⟨hx, hb, hml, hown, hts⟩ (c_M_deep l D cI cJ cZ cP cS po m0 mrf mki mpa mta mla msl mco mhe mso msi msh mce mca mwo mnu mte mwa mke mma mth mtr (npu) (nte) (nat_) (nde) (nto) (nse) (nhu) (nga) (nsd) (nfa) (nba) (npl) (nen) (nnu) (nwr) (nra) (nik) gki gpa (p_) (i_80) (0) hy0 hy1 hy2 hy3 hy4 hy5 hy6 hy7 hy8 hy9 hy10 hy11 hy12 hy13 (by omega) (by omega) (by omega) (by omega) hp_gki hp_gpa) (cwV 3 hts gX8_behind_X8_deep rfl rfl rfl ⟨rfl, dh_X8_deep⟩ ⟨Nat.le_of_ble_eq_true rfl, Nat.le_of_ble_eq_true rfl⟩) hK hN (hZ.kept hS) hP (hP.sub [0, 5, 6] rfl) (va_recv (q := (RX8, TX8, 38)) hK hP (ci := 8) (q0 := 0) rfl rfl) rfl hl.1 rfl (Nat.le_of_ble_eq_true rfl) dX8_behind_128 ⟨Nat.le_of_ble_eq_true rfl, Nat.le_of_ble_eq_true rfl⟩ (fun r_269 hr_269 => ?_)
                          obtain ⟨g_270, g_271⟩ := hr_269
                          refine lv_iload_n hx hb dX8_behind_131 rfl (lv_at hl 6 rfl) ?_
                          refine lv_icmp_ne (tgt := 153) hx hb dX8_behind_132 (by decide) (fun c_272 => ?_) (fun c_272 => ?_)
                          · have fc_272 : r_269.toInt ≠ to.toInt := zf_ne c_272 rfl rfl
                            obtain ⟨x_273, ex_273⟩ : ∃ y : Int32, y = i_80 + 1 := ⟨_, rfl⟩
                            have qx_273 : x_273.toInt = i_80.toInt + 1 := by rw [ex_273]; exact zf_add rfl (by decide) (by omega) (by omega)
                            refine lv_iinc (v := x_273) (lv' := [(6, .int x_273), (7, .int r_262), (5, .int v_259), (0, .ref m0), (1, .int s_), (2, .int p_), (3, .int to)]) hx hb dX8_behind_153 hl (k := 1) rfl ex_273.symm (by decide) rfl (fun ls hl => ?_)
                            refine lv_goto (tgt := 80) hx hb dX8_behind_156 (by decide) ?_
                            exact ih x_273 v_259 _ _ _ (hP.sub [0, 1, 2, 3, 4, 5, 6] rfl) (hD.sub [0, 1, 2, 3, 4, 5, 6] (by decide) rfl) hS (lv_sub hl [0, 2, 3, 4, 5, 6] rfl) (dw_lo hloi_80 qx_273) (dw_hn hni_80 qx_273)
                          · have fc_272 : r_269.toInt = to.toInt := zf_eq c_272 rfl rfl
                            refine lv_iload hx hb dX8_behind_135 (lv_at hl 2 rfl) ?_
                            refine lv_bipush (v := 12) hx hb dX8_behind_137 (by decide) ?_
                            refine lv_iload hx hb dX8_behind_139 (lv_at hl 0 rfl) ?_
                            refine lv_isub hx hb dX8_behind_141 ?_
                            refine lv_topi (fun x_274 ex_274 => ?_)
                            have qx_274 : x_274.toInt = 12 - r_262.toInt := by rw [ex_274]; exact zf_sub (by decide) rfl (by omega) (by omega)
                            refine lv_aload_n hx hb dX8_behind_142 rfl (lv_at hl 3 rfl) ?_
                            refine lv_iload_n hx hb dX8_behind_143 rfl (lv_at hl 4 rfl) ?_
                            refine lv_iload hx hb dX8_behind_144 (lv_at hl 1 rfl) ?_
                            refine zc_V (As := [.int s_, .int i_80]) (rest := [.int x_274, .int v_259]) ⟨hx, hb, hml, hown, hts⟩ (c_M_intAt l D cI cJ cZ cP cS po m0 mrf mki mpa mta mla msl mco mhe mso msi msh mce mca mwo mnu mte mwa mke mma mth mtr (npu) (nte) (nat_) (nde) (nto) (nse) (nhu) (nga) (nsd) (nfa) (nba) (npl) (nen) (nnu) (nwr) (nra) (nik) gce (s_) (i_80) hy0 hy1 hy2 hy3 hy4 hy5 hy6 hy7 hy8 hy9 hy10 hy11 hy12 hy13 (by omega) (by omega) (by omega) (by omega)) (cwV 2 hts gX8_behind_X8_intAt rfl rfl rfl ⟨rfl, dh_X8_intAt⟩ ⟨Nat.le_of_ble_eq_true rfl, Nat.le_of_ble_eq_true rfl⟩) hK hN (hZ.kept hS) hP (hP.sub [0, 4] rfl) (va_recv (q := (RX8, TX8, 38)) hK hP (ci := 8) (q0 := 0) rfl rfl) rfl hl.1 rfl (Nat.le_of_ble_eq_true rfl) dX8_behind_146 ⟨Nat.le_of_ble_eq_true rfl, Nat.le_of_ble_eq_true rfl⟩ (fun r_275 hr_275 => ?_)
                            refine lv_imul hx hb dX8_behind_149 ?_
                            refine lv_topi (fun x_276 ex_276 => ?_)
                            refine lv_iadd hx hb dX8_behind_150 ?_
                            refine lv_topi (fun x_277 ex_277 => ?_)
                            refine lv_istore (lv' := [(5, .int x_277), (7, .int r_262), (6, .int i_80), (0, .ref m0), (1, .int s_), (2, .int p_), (3, .int to)]) hx hb dX8_behind_151 hl (by decide) rfl (fun ls hl => ?_)
                            obtain ⟨x_278, ex_278⟩ : ∃ y : Int32, y = i_80 + 1 := ⟨_, rfl⟩
                            have qx_278 : x_278.toInt = i_80.toInt + 1 := by rw [ex_278]; exact zf_add rfl (by decide) (by omega) (by omega)
                            refine lv_iinc (v := x_278) (lv' := [(6, .int x_278), (5, .int x_277), (7, .int r_262), (0, .ref m0), (1, .int s_), (2, .int p_), (3, .int to)]) hx hb dX8_behind_153 hl (k := 2) rfl ex_278.symm (by decide) rfl (fun ls hl => ?_)
                            refine lv_goto (tgt := 80) hx hb dX8_behind_156 (by decide) ?_
                            exact ih x_278 x_277 _ _ _ (hP.sub [0, 1, 2, 3, 4, 5, 6] rfl) (hD.sub [0, 1, 2, 3, 4, 5, 6] (by decide) rfl) hS (lv_sub hl [0, 1, 3, 4, 5, 6] rfl) (dw_lo hloi_80 qx_278) (dw_hn hni_80 qx_278)
                        · have fc_268 : r_265.toInt = to.toInt := zf_eq c_268 rfl rfl
                          refine lv_iload hx hb dX8_behind_108 (lv_at hl 2 rfl) ?_
                          refine lv_iload hx hb dX8_behind_110 (lv_at hl 0 rfl) ?_
                          refine lv_aload_n hx hb dX8_behind_112 rfl (lv_at hl 3 rfl) ?_
                          refine lv_iload_n hx hb dX8_behind_113 rfl (lv_at hl 4 rfl) ?_
                          refine lv_iload hx hb dX8_behind_114 (lv_at hl 1 rfl) ?_
                          refine zc_V (As := [.int s_, .int i_80]) (rest := [.int r_262, .int v_259]) ⟨hx, hb, hml, hown, hts⟩ (c_M_intAt l D cI cJ cZ cP cS po m0 mrf mki mpa mta mla msl mco mhe mso msi msh mce mca mwo mnu mte mwa mke mma mth mtr (npu) (nte) (nat_) (nde) (nto) (nse) (nhu) (nga) (nsd) (nfa) (nba) (npl) (nen) (nnu) (nwr) (nra) (nik) gce (s_) (i_80) hy0 hy1 hy2 hy3 hy4 hy5 hy6 hy7 hy8 hy9 hy10 hy11 hy12 hy13 (by omega) (by omega) (by omega) (by omega)) (cwV 2 hts gX8_behind_X8_intAt rfl rfl rfl ⟨rfl, dh_X8_intAt⟩ ⟨Nat.le_of_ble_eq_true rfl, Nat.le_of_ble_eq_true rfl⟩) hK hN (hZ.kept hS) hP (hP.sub [0, 4] rfl) (va_recv (q := (RX8, TX8, 38)) hK hP (ci := 8) (q0 := 0) rfl rfl) rfl hl.1 rfl (Nat.le_of_ble_eq_true rfl) dX8_behind_116 ⟨Nat.le_of_ble_eq_true rfl, Nat.le_of_ble_eq_true rfl⟩ (fun r_279 hr_279 => ?_)
                          refine lv_imul hx hb dX8_behind_119 ?_
                          refine lv_topi (fun x_280 ex_280 => ?_)
                          refine lv_iadd hx hb dX8_behind_120 ?_
                          refine lv_topi (fun x_281 ex_281 => ?_)
                          refine lv_istore (lv' := [(5, .int x_281), (7, .int r_262), (6, .int i_80), (0, .ref m0), (1, .int s_), (2, .int p_), (3, .int to)]) hx hb dX8_behind_121 hl (by decide) rfl (fun ls hl => ?_)
                          refine lv_aload_n hx hb dX8_behind_123 rfl (lv_at hl 3 rfl) ?_
                          refine lv_iload_n hx hb dX8_behind_124 rfl (lv_at hl 5 rfl) ?_
                          refine lv_iload hx hb dX8_behind_125 (lv_at hl 2 rfl) ?_
                          refine lv_iconst (v := 0) hx hb dX8_behind_127 (by decide) ?_
                          refine zc_V (As := [.int p_, .int i_80, .int 0]) (rest := []) ⟨hx, hb, hml, hown, hts⟩ (c_M_deep l D cI cJ cZ cP cS po m0 mrf mki mpa mta mla msl mco mhe mso msi msh mce mca mwo mnu mte mwa mke mma mth mtr (npu) (nte) (nat_) (nde) (nto) (nse) (nhu) (nga) (nsd) (nfa) (nba) (npl) (nen) (nnu) (nwr) (nra) (nik) gki gpa (p_) (i_80) (0) hy0 hy1 hy2 hy3 hy4 hy5 hy6 hy7 hy8 hy9 hy10 hy11 hy12 hy13 (by omega) (by omega) (by omega) (by omega) hp_gki hp_gpa) (cwV 3 hts gX8_behind_X8_deep rfl rfl rfl ⟨rfl, dh_X8_deep⟩ ⟨Nat.le_of_ble_eq_true rfl, Nat.le_of_ble_eq_true rfl⟩) hK hN (hZ.kept hS) hP (hP.sub [0, 5, 6] rfl) (va_recv (q := (RX8, TX8, 38)) hK hP (ci := 8) (q0 := 0) rfl rfl) rfl hl.1 rfl (Nat.le_of_ble_eq_true rfl) dX8_behind_128 ⟨Nat.le_of_ble_eq_true rfl, Nat.le_of_ble_eq_true rfl⟩ (fun r_282 hr_282 => ?_)
                          obtain ⟨g_283, g_284⟩ := hr_282
                          refine lv_iload_n hx hb dX8_behind_131 rfl (lv_at hl 6 rfl) ?_
                          refine lv_icmp_ne (tgt := 153) hx hb dX8_behind_132 (by decide) (fun c_285 => ?_) (fun c_285 => ?_)
                          · have fc_285 : r_282.toInt ≠ to.toInt := zf_ne c_285 rfl rfl
                            obtain ⟨x_286, ex_286⟩ : ∃ y : Int32, y = i_80 + 1 := ⟨_, rfl⟩
                            have qx_286 : x_286.toInt = i_80.toInt + 1 := by rw [ex_286]; exact zf_add rfl (by decide) (by omega) (by omega)
                            refine lv_iinc (v := x_286) (lv' := [(6, .int x_286), (5, .int x_281), (7, .int r_262), (0, .ref m0), (1, .int s_), (2, .int p_), (3, .int to)]) hx hb dX8_behind_153 hl (k := 2) rfl ex_286.symm (by decide) rfl (fun ls hl => ?_)
                            refine lv_goto (tgt := 80) hx hb dX8_behind_156 (by decide) ?_
                            exact ih x_286 x_281 _ _ _ (hP.sub [0, 1, 2, 3, 4, 5, 6] rfl) (hD.sub [0, 1, 2, 3, 4, 5, 6] (by decide) rfl) hS (lv_sub hl [0, 1, 3, 4, 5, 6] rfl) (dw_lo hloi_80 qx_286) (dw_hn hni_80 qx_286)
                          · have fc_285 : r_282.toInt = to.toInt := zf_eq c_285 rfl rfl
                            refine lv_iload hx hb dX8_behind_135 (lv_at hl 0 rfl) ?_
                            refine lv_bipush (v := 12) hx hb dX8_behind_137 (by decide) ?_
                            refine lv_iload hx hb dX8_behind_139 (lv_at hl 1 rfl) ?_
                            refine lv_isub hx hb dX8_behind_141 ?_
                            refine lv_topi (fun x_287 ex_287 => ?_)
                            have qx_287 : x_287.toInt = 12 - r_262.toInt := by rw [ex_287]; exact zf_sub (by decide) rfl (by omega) (by omega)
                            refine lv_aload_n hx hb dX8_behind_142 rfl (lv_at hl 3 rfl) ?_
                            refine lv_iload_n hx hb dX8_behind_143 rfl (lv_at hl 4 rfl) ?_
                            refine lv_iload hx hb dX8_behind_144 (lv_at hl 2 rfl) ?_
                            refine zc_V (As := [.int s_, .int i_80]) (rest := [.int x_287, .int x_281]) ⟨hx, hb, hml, hown, hts⟩ (c_M_intAt l D cI cJ cZ cP cS po m0 mrf mki mpa mta mla msl mco mhe mso msi msh mce mca mwo mnu mte mwa mke mma mth mtr (npu) (nte) (nat_) (nde) (nto) (nse) (nhu) (nga) (nsd) (nfa) (nba) (npl) (nen) (nnu) (nwr) (nra) (nik) gce (s_) (i_80) hy0 hy1 hy2 hy3 hy4 hy5 hy6 hy7 hy8 hy9 hy10 hy11 hy12 hy13 (by omega) (by omega) (by omega) (by omega)) (cwV 2 hts gX8_behind_X8_intAt rfl rfl rfl ⟨rfl, dh_X8_intAt⟩ ⟨Nat.le_of_ble_eq_true rfl, Nat.le_of_ble_eq_true rfl⟩) hK hN (hZ.kept hS) hP (hP.sub [0, 4] rfl) (va_recv (q := (RX8, TX8, 38)) hK hP (ci := 8) (q0 := 0) rfl rfl) rfl hl.1 rfl (Nat.le_of_ble_eq_true rfl) dX8_behind_146 ⟨Nat.le_of_ble_eq_true rfl, Nat.le_of_ble_eq_true rfl⟩ (fun r_288 hr_288 => ?_)
                            refine lv_imul hx hb dX8_behind_149 ?_
                            refine lv_topi (fun x_289 ex_289 => ?_)
                            refine lv_iadd hx hb dX8_behind_150 ?_
                            refine lv_topi (fun x_290 ex_290 => ?_)
                            refine lv_istore (lv' := [(5, .int x_290), (7, .int r_262), (6, .int i_80), (0, .ref m0), (1, .int s_), (2, .int p_), (3, .int to)]) hx hb dX8_behind_151 hl (by decide) rfl (fun ls hl => ?_)
                            obtain ⟨x_291, ex_291⟩ : ∃ y : Int32, y = i_80 + 1 := ⟨_, rfl⟩
                            have qx_291 : x_291.toInt = i_80.toInt + 1 := by rw [ex_291]; exact zf_add rfl (by decide) (by omega) (by omega)
                            refine lv_iinc (v := x_291) (lv' := [(6, .int x_291), (5, .int x_290), (7, .int r_262), (0, .ref m0), (1, .int s_), (2, .int p_), (3, .int to)]) hx hb dX8_behind_153 hl (k := 2) rfl ex_291.symm (by decide) rfl (fun ls hl => ?_)
                            refine lv_goto (tgt := 80) hx hb dX8_behind_156 (by decide) ?_
                            exact ih x_291 x_290 _ _ _ (hP.sub [0, 1, 2, 3, 4, 5, 6] rfl) (hD.sub [0, 1, 2, 3, 4, 5, 6] (by decide) rfl) hS (lv_sub hl [0, 1, 3, 4, 5, 6] rfl) (dw_lo hloi_80 qx_291) (dw_hn hni_80 qx_291)
                · exfalso; have fc_222 : r_207.toInt ≠ 0 := zf_ne c_222 rfl (by decide); omega
              · have fc_221 : 24 < to.toInt := zf_nle c_221 rfl (by decide)
                refine lv_bipush (v := (-6)) hx hb dX8_behind_42 (by decide) ?_
                refine lv_istore (lv' := [(4, .int (-6)), (0, .ref m0), (1, .int s_), (2, .int p_), (3, .int to)]) hx hb dX8_behind_44 hl (by decide) rfl (fun ls hl => ?_)
                refine lv_iload hx hb dX8_behind_46 (lv_at hl 0 rfl) ?_
                refine lv_if_eq (tgt := 58) hx hb dX8_behind_48 (by decide) (fun c_292 => ?_) (fun c_292 => ?_)
                · exact absurd c_292 (by decide)
                · refine lv_aload_n hx hb dX8_behind_51 rfl (lv_at hl 1 rfl) ?_
                  refine lv_iload hx hb dX8_behind_52 (lv_at hl 0 rfl) ?_
                  skip
                  refine zw_V (As := [.int (-6)]) (rest := []) (wr := [(mhe, .inl (cI, 8, .inl ghe)), (msi, .inl (cI, 8, .inl gsi)), (mce, .inl (cJ, 1280, .inr (.inl gce))), (mki, .inl (cI, 8, .inl gki)), (mpa, .inl (cI, 8, .inl gpa))]) ⟨hx, hb, hml, hown, hts⟩ (c_M_no_6 l D cI cJ cZ cP cS po m0 mrf mki mpa mta mla msl mco mhe mso msi msh mce mca mwo mnu mte mwa mke mma mth mtr (npu) (nte) (nat_) (nde) (nto) (nse) (nhu) (nga) (nsd) (nfa) (nba) (npl) (nen) (nnu) (nwr) (nra) (nik) grf hy0 hy1 hy2 hy3 hy4 hy5 hy6 hy7 hy8 hy9 hy10 hy11 hy12 hy13 H.size) (cwV 1 hts gX8_behind_X8_no rfl rfl rfl ⟨rfl, dh_X8_no⟩ ⟨Nat.le_of_ble_eq_true rfl, Nat.le_of_ble_eq_true rfl⟩) hK hN (hZ.kept hS) hP hD hS hA [0, 1] [2, 3, 4, 5, 6] rfl rfl (by decide) (by decide) (by decide) (va_recv (q := (RX8, TX8, 38)) hK hP (ci := 8) (q0 := 0) rfl rfl) rfl hl.1 rfl (Nat.le_of_ble_eq_true rfl) dX8_behind_54 ⟨Nat.le_of_ble_eq_true rfl, Nat.le_of_ble_eq_true rfl⟩ (fun r_293 u_294 H locs hr_293 hP hD hS => ?_)
                  obtain ⟨q_295, rfl⟩ : ∃ z, z = u_294 := ⟨_, rfl⟩
                  have h9R := zRe (ws' := [(mhe, .inl (cI, 8, .inl ghe)), (msi, .inl (cI, 8, .inl gsi)), (mce, .inl (cJ, 1280, .inr (.inl gce))), (mki, .inl (cI, 8, .inl gki)), (mpa, .inl (cI, 8, .inl gpa)), (zMO m0 npu nte nat_ nde nto nse nhu nga nsd nfa mrf mki mpa mta mla msl mco mhe mso msi msh mce mca mwo mnu mte nba npl nen nnu nwr mwa mke mma mth mtr nra nik), (mrf, .inl (cI, 8, .inl q_295))]) hP hD rfl
                  clear hP hD
                  obtain ⟨hP, hD⟩ := h9R
                  obtain rfl := hr_293
                  exact W.iret (v := (-6)) hx hb hr (fun t ht hW => ⟨⟨(-6), q_295, rfl, trivial, zRet ht hP hD [5, 6, 0, 1, 2, 3, 4] (by decide) rfl⟩, hS.F ht⟩) hS.2.2 dX8_behind_57
        · exact absurd c_206 (by decide)
theorem gl_X8_isOpen_X80 : GoodIn wsX8_isOpen wsX80 := (dg_t (dg_t (dg_t gw_wsX80)))
theorem hi_X8_isOpen_8 : ∀ w ∈ u_ws RX8 TX8 38, w ∈ wsX8_isOpen := fun w h => (gl_X8_isOpen_X80 w h).1
set_option maxHeartbeats 4000000 in
set_option maxRecDepth 100000 in
theorem c_M_isOpen (l : Launch) (D : va_G) (cI cJ cZ cP cS : ClassId) (po : zPool) (m0 mrf mki mpa mta mla msl mco mhe mso msi msh mce mca mwo mnu mte mwa mke mma mth mtr : Nat) (npu nte nat_ nde nto nse nhu nga nsd nfa nba npl nen nnu nwr nra nik : Int32) (gla : Nat → Int32) (t_ : Int32) (hy0 : 0 ≤ npu.toInt) (hy1 : npu.toInt ≤ 8) (hy2 : 4 ≤ nte.toInt) (hy3 : nte.toInt ≤ 40) (hy4 : 0 ≤ nat_.toInt) (hy5 : nat_.toInt ≤ 40) (hy6 : 0 ≤ nde.toInt) (hy7 : nde.toInt ≤ 24) (hy8 : 0 ≤ nhu.toInt) (hy9 : nhu.toInt ≤ 9) (hy10 : 0 ≤ nra.toInt) (hy11 : nra.toInt ≤ 2000) (hy12 : 0 ≤ nik.toInt) (hy13 : nik.toInt ≤ 1) (hy14 : 0 ≤ t_.toInt) (hy15 : t_.toInt ≤ 39) (hp_gla : zRg gla (0) 1) : Met l yX8_isOpen wsX8_isOpen ({ frames := 0, cells := 0, slots := 0, locals := 0 }) (va_Pc [.ref m0, .int t_] (zR D (zKT cI cJ cZ cP cS) po [(zMO m0 npu nte nat_ nde nto nse nhu nga nsd nfa mrf mki mpa mta mla msl mco mhe mso msi msh mce mca mwo mnu mte nba npl nen nnu nwr mwa mke mma mth mtr nra nik), (mla, .inl (cI, 40, .inl gla))])) (vp_Si (fun r => 0 ≤ r.toInt ∧ r.toInt ≤ 1)) 0 0 (fun _ => False) := by
  refine Met.ofW (cc := cX8_isOpen) (maxL := 2) (ret := (some .boolean)) (by decide) rfl ?_
  intro p e s m args below meth c s₁ B hml hv
  obtain ⟨rfl, hP, hK, hN, hZ⟩ := hv
  have hx := B.exec
  have hb := B.bytes
  have hr := B.returns
  have hts := atoms_spec (ws := wsX8_isOpen) B.pre
  have hown : s.vm.findClass RX8 = some m.cls := findClass_of_methodNamed B.named
  have hlocks := B.notSynchronized
  have hl := lv_entry ([.ref m0, .int t_]) (n := 2) (Nat.le_of_ble_eq_true rfl)
  rw [lg_entry_eq]
  generalize (lg_sl ([.ref m0, .int t_]) ++ List.replicate (2 - (lg_sl ([.ref m0, .int t_])).length) Slot.unset).toArray = ls at hl ⊢
  replace hl : lv_has ls 2 [(0, .ref m0), (1, .int t_)] := hl
  refine lv_iload_n hx hb dX8_isOpen_0 rfl (lv_at hl 1 rfl) ?_
  refine lv_iconst (v := 2) hx hb dX8_isOpen_1 (by decide) ?_
  refine lv_iadd hx hb dX8_isOpen_2 ?_
  refine lv_topi (fun x_1 ex_1 => ?_)
  have qx_1 : x_1.toInt = t_.toInt + 2 := by rw [ex_1]; exact zf_add rfl (by decide) (by omega) (by omega)
  refine lv_aload_n hx hb dX8_isOpen_3 rfl (lv_at hl 0 rfl) ?_
  refine va_get (D := D) (ci := 8) (v := .int nte) (C := RX8) (T := TX8) (N := 38) hx hb hts hi_X8_isOpen_8 hown hK hP 0 rfl rfl 1 (by decide) (hts (.fieldLink RX8 7 "TheLiningsInItModel" "teeth" "I") (List.mem_of_getElem? (i := 1) rfl)) (fun _ h9 => h9) rfl dX8_isOpen_4 ?_
  refine lv_icmp_ge (tgt := 48) hx hb dX8_isOpen_7 (by decide) (fun c_2 => ?_) (fun c_2 => ?_)
  · have fc_2 : nte.toInt ≤ x_1.toInt := zf_le c_2 rfl rfl
    refine lv_iconst (v := 0) hx hb dX8_isOpen_48 (by decide) ?_
    exact W.zret (v := 0) hx hb hr (by decide) (fun t ht hW => ⟨0, rfl, ⟨by decide, by decide⟩, ht⟩) (fun q hq => by cases hq) dX8_isOpen_49
  · have fc_2 : x_1.toInt < nte.toInt := zf_nle c_2 rfl rfl
    refine lv_aload_n hx hb dX8_isOpen_10 rfl (lv_at hl 0 rfl) ?_
    refine va_get (D := D) (ci := 8) (v := .ref mla) (C := RX8) (T := TX8) (N := 38) hx hb hts hi_X8_isOpen_8 hown hK hP 0 rfl rfl 14 (by decide) (hts (.fieldLink RX8 38 "TheLiningsInItModel" "lacks" "[I") (List.mem_of_getElem? (i := 2) rfl)) (fun _ h9 => h9) rfl dX8_isOpen_11 ?_
    refine lv_iload_n hx hb dX8_isOpen_14 rfl (lv_at hl 1 rfl) ?_
    refine va_iald hx hb hK hP 1 0 rfl rfl (zf_in (by omega) (by omega)) dX8_isOpen_15 ?_
    refine lv_topi (fun x_3 ex_3 => ?_)
    have bx_3 : 0 ≤ x_3.toInt ∧ x_3.toInt ≤ 1 := by rw [ex_3]; exact hp_gla _
    refine lv_iconst (v := 1) hx hb dX8_isOpen_16 (by decide) ?_
    refine lv_icmp_ne (tgt := 48) hx hb dX8_isOpen_17 (by decide) (fun c_4 => ?_) (fun c_4 => ?_)
    · have fc_4 : x_3.toInt ≠ 1 := zf_ne c_4 rfl (by decide)
      refine lv_iconst (v := 0) hx hb dX8_isOpen_48 (by decide) ?_
      exact W.zret (v := 0) hx hb hr (by decide) (fun t ht hW => ⟨0, rfl, ⟨by decide, by decide⟩, ht⟩) (fun q hq => by cases hq) dX8_isOpen_49
    · have fc_4 : x_3.toInt = 1 := zf_eq c_4 rfl (by decide)
      refine lv_aload_n hx hb dX8_isOpen_20 rfl (lv_at hl 0 rfl) ?_
      refine va_get (D := D) (ci := 8) (v := .ref mla) (C := RX8) (T := TX8) (N := 38) hx hb hts hi_X8_isOpen_8 hown hK hP 0 rfl rfl 14 (by decide) (hts (.fieldLink RX8 38 "TheLiningsInItModel" "lacks" "[I") (List.mem_of_getElem? (i := 2) rfl)) (fun _ h9 => h9) rfl dX8_isOpen_21 ?_
      refine lv_iload_n hx hb dX8_isOpen_24 rfl (lv_at hl 1 rfl) ?_
      refine lv_iconst (v := 1) hx hb dX8_isOpen_25 (by decide) ?_
      refine lv_iadd hx hb dX8_isOpen_26 ?_
      refine lv_topi (fun x_5 ex_5 => ?_)
      have qx_5 : x_5.toInt = t_.toInt + 1 := by rw [ex_5]; exact zf_add rfl (by decide) (by omega) (by omega)
      refine va_iald hx hb hK hP 1 0 rfl rfl (zf_in (by omega) (by omega)) dX8_isOpen_27 ?_
      refine lv_topi (fun x_6 ex_6 => ?_)
      have bx_6 : 0 ≤ x_6.toInt ∧ x_6.toInt ≤ 1 := by rw [ex_6]; exact hp_gla _
      refine lv_iconst (v := 1) hx hb dX8_isOpen_28 (by decide) ?_
      refine lv_icmp_ne (tgt := 48) hx hb dX8_isOpen_29 (by decide) (fun c_7 => ?_) (fun c_7 => ?_)
      · have fc_7 : x_6.toInt ≠ 1 := zf_ne c_7 rfl (by decide)
        refine lv_iconst (v := 0) hx hb dX8_isOpen_48 (by decide) ?_
        exact W.zret (v := 0) hx hb hr (by decide) (fun t ht hW => ⟨0, rfl, ⟨by decide, by decide⟩, ht⟩) (fun q hq => by cases hq) dX8_isOpen_49
      · have fc_7 : x_6.toInt = 1 := zf_eq c_7 rfl (by decide)
        refine lv_aload_n hx hb dX8_isOpen_32 rfl (lv_at hl 0 rfl) ?_
        refine va_get (D := D) (ci := 8) (v := .ref mla) (C := RX8) (T := TX8) (N := 38) hx hb hts hi_X8_isOpen_8 hown hK hP 0 rfl rfl 14 (by decide) (hts (.fieldLink RX8 38 "TheLiningsInItModel" "lacks" "[I") (List.mem_of_getElem? (i := 2) rfl)) (fun _ h9 => h9) rfl dX8_isOpen_33 ?_
        refine lv_iload_n hx hb dX8_isOpen_36 rfl (lv_at hl 1 rfl) ?_
        refine lv_iconst (v := 2) hx hb dX8_isOpen_37 (by decide) ?_
        refine lv_iadd hx hb dX8_isOpen_38 ?_
        refine lv_topi (fun y_8 ey_8 => ?_)
        obtain rfl : x_1 = y_8 := ex_1.trans ey_8.symm
        refine va_iald hx hb hK hP 1 0 rfl rfl (zf_in (by omega) (by omega)) dX8_isOpen_39 ?_
        refine lv_topi (fun x_9 ex_9 => ?_)
        have bx_9 : 0 ≤ x_9.toInt ∧ x_9.toInt ≤ 1 := by rw [ex_9]; exact hp_gla _
        refine lv_iconst (v := 1) hx hb dX8_isOpen_40 (by decide) ?_
        refine lv_icmp_ne (tgt := 48) hx hb dX8_isOpen_41 (by decide) (fun c_10 => ?_) (fun c_10 => ?_)
        · have fc_10 : x_9.toInt ≠ 1 := zf_ne c_10 rfl (by decide)
          refine lv_iconst (v := 0) hx hb dX8_isOpen_48 (by decide) ?_
          exact W.zret (v := 0) hx hb hr (by decide) (fun t ht hW => ⟨0, rfl, ⟨by decide, by decide⟩, ht⟩) (fun q hq => by cases hq) dX8_isOpen_49
        · have fc_10 : x_9.toInt = 1 := zf_eq c_10 rfl (by decide)
          refine lv_iconst (v := 1) hx hb dX8_isOpen_44 (by decide) ?_
          refine lv_goto (tgt := 49) hx hb dX8_isOpen_45 (by decide) ?_
          exact W.zret (v := 1) hx hb hr (by decide) (fun t ht hW => ⟨1, rfl, ⟨by decide, by decide⟩, ht⟩) (fun q hq => by cases hq) dX8_isOpen_49
theorem hi_X8_doesHold_8 : ∀ w ∈ u_ws RX8 TX8 38, w ∈ wsX8_doesHold := fun w h => (gl_X8_doesHold_X80 w h).1
theorem hi_X8_frail_8 : ∀ w ∈ u_ws RX8 TX8 38, w ∈ wsX8_frail := fun w h => (gl_X8_frail_X80 w h).1
theorem gl_X8_greatest_X80 : GoodIn wsX8_greatest wsX80 := (dg_t (dg_t gw_wsX80))
theorem hi_X8_greatest_8 : ∀ w ∈ u_ws RX8 TX8 38, w ∈ wsX8_greatest := fun w h => (gl_X8_greatest_X80 w h).1
theorem hi_X8_spare_8 : ∀ w ∈ u_ws RX8 TX8 38, w ∈ wsX8_spare := fun w h => (gl_X8_spare_X80 w h).1
theorem gl_X8_lacking_X80 : GoodIn wsX8_lacking wsX80 := (dg_t (dg_t (dg_t gw_wsX80)))
theorem hi_X8_lacking_8 : ∀ w ∈ u_ws RX8 TX8 38, w ∈ wsX8_lacking := fun w h => (gl_X8_lacking_X80 w h).1
theorem gl_X8_doesCatch_X80 : GoodIn wsX8_doesCatch wsX80 := (dg_t (dg_t (dg_t (dg_t gw_wsX80))))
theorem hi_X8_doesCatch_8 : ∀ w ∈ u_ws RX8 TX8 38, w ∈ wsX8_doesCatch := fun w h => (gl_X8_doesCatch_X80 w h).1
set_option maxHeartbeats 4000000 in
set_option maxRecDepth 100000 in
theorem c_M_doesCatch (l : Launch) (D : va_G) (cI cJ cZ cP cS : ClassId) (po : zPool) (m0 mrf mki mpa mta mla msl mco mhe mso msi msh mce mca mwo mnu mte mwa mke mma mth mtr : Nat) (npu nte nat_ nde nto nse nhu nga nsd nfa nba npl nen nnu nwr nra nik : Int32) (gla gsl : Nat → Int32) (t_ : Int32) (hy0 : 0 ≤ npu.toInt) (hy1 : npu.toInt ≤ 8) (hy2 : 4 ≤ nte.toInt) (hy3 : nte.toInt ≤ 40) (hy4 : 0 ≤ nat_.toInt) (hy5 : nat_.toInt ≤ 40) (hy6 : 0 ≤ nde.toInt) (hy7 : nde.toInt ≤ 24) (hy8 : 0 ≤ nhu.toInt) (hy9 : nhu.toInt ≤ 9) (hy10 : 0 ≤ nra.toInt) (hy11 : nra.toInt ≤ 2000) (hy12 : 0 ≤ nik.toInt) (hy13 : nik.toInt ≤ 1) (hy14 : 0 ≤ t_.toInt) (hy15 : t_.toInt ≤ 39) (hp_gla : zRg gla (0) 1) (hp_gsl : zRg gsl (0) 9) : Met l yX8_doesCatch wsX8_doesCatch ({ frames := 0, cells := 0, slots := 0, locals := 0 }) (va_Pc [.ref m0, .int t_] (zR D (zKT cI cJ cZ cP cS) po [(zMO m0 npu nte nat_ nde nto nse nhu nga nsd nfa mrf mki mpa mta mla msl mco mhe mso msi msh mce mca mwo mnu mte nba npl nen nnu nwr mwa mke mma mth mtr nra nik), (mla, .inl (cI, 40, .inl gla)), (msl, .inl (cI, 40, .inl gsl))])) (vp_Si (fun r => 0 ≤ r.toInt ∧ r.toInt ≤ 1)) 0 0 (fun _ => False) := by
  refine Met.ofW (cc := cX8_doesCatch) (maxL := 2) (ret := (some .boolean)) (by decide) rfl ?_
  intro p e s m args below meth c s₁ B hml hv
  obtain ⟨rfl, hP, hK, hN, hZ⟩ := hv
  have hx := B.exec
  have hb := B.bytes
  have hr := B.returns
  have hts := atoms_spec (ws := wsX8_doesCatch) B.pre
  have hown : s.vm.findClass RX8 = some m.cls := findClass_of_methodNamed B.named
  have hlocks := B.notSynchronized
  have hl := lv_entry ([.ref m0, .int t_]) (n := 2) (Nat.le_of_ble_eq_true rfl)
  rw [lg_entry_eq]
  generalize (lg_sl ([.ref m0, .int t_]) ++ List.replicate (2 - (lg_sl ([.ref m0, .int t_])).length) Slot.unset).toArray = ls at hl ⊢
  replace hl : lv_has ls 2 [(0, .ref m0), (1, .int t_)] := hl
  refine lv_aload_n hx hb dX8_doesCatch_0 rfl (lv_at hl 0 rfl) ?_
  refine va_get (D := D) (ci := 8) (v := .ref mla) (C := RX8) (T := TX8) (N := 38) hx hb hts hi_X8_doesCatch_8 hown hK hP 0 rfl rfl 14 (by decide) (hts (.fieldLink RX8 38 "TheLiningsInItModel" "lacks" "[I") (List.mem_of_getElem? (i := 1) rfl)) (fun _ h9 => h9) rfl dX8_doesCatch_1 ?_
  refine lv_iload_n hx hb dX8_doesCatch_4 rfl (lv_at hl 1 rfl) ?_
  refine va_iald hx hb hK hP 1 0 rfl rfl (zf_in (by omega) (by omega)) dX8_doesCatch_5 ?_
  refine lv_topi (fun x_1 ex_1 => ?_)
  have bx_1 : 0 ≤ x_1.toInt ∧ x_1.toInt ≤ 1 := by rw [ex_1]; exact hp_gla _
  refine lv_if_ne (tgt := 26) hx hb dX8_doesCatch_6 (by decide) (fun c_2 => ?_) (fun c_2 => ?_)
  · have fc_2 : x_1.toInt ≠ 0 := zf_ne c_2 rfl (by decide)
    refine lv_iconst (v := 0) hx hb dX8_doesCatch_26 (by decide) ?_
    exact W.zret (v := 0) hx hb hr (by decide) (fun t ht hW => ⟨0, rfl, ⟨by decide, by decide⟩, ht⟩) (fun q hq => by cases hq) dX8_doesCatch_27
  · have fc_2 : x_1.toInt = 0 := zf_eq c_2 rfl (by decide)
    refine lv_aload_n hx hb dX8_doesCatch_9 rfl (lv_at hl 0 rfl) ?_
    refine va_get (D := D) (ci := 8) (v := .ref msl) (C := RX8) (T := TX8) (N := 38) hx hb hts hi_X8_doesCatch_8 hown hK hP 0 rfl rfl 15 (by decide) (hts (.fieldLink RX8 41 "TheLiningsInItModel" "slack" "[I") (List.mem_of_getElem? (i := 2) rfl)) (fun _ h9 => h9) rfl dX8_doesCatch_10 ?_
    refine lv_iload_n hx hb dX8_doesCatch_13 rfl (lv_at hl 1 rfl) ?_
    refine va_iald hx hb hK hP 2 0 rfl rfl (zf_in (by omega) (by omega)) dX8_doesCatch_14 ?_
    refine lv_topi (fun x_3 ex_3 => ?_)
    have bx_3 : 0 ≤ x_3.toInt ∧ x_3.toInt ≤ 9 := by rw [ex_3]; exact hp_gsl _
    refine lv_aload_n hx hb dX8_doesCatch_15 rfl (lv_at hl 0 rfl) ?_
    refine va_get (D := D) (ci := 8) (v := .int nga) (C := RX8) (T := TX8) (N := 38) hx hb hts hi_X8_doesCatch_8 hown hK hP 0 rfl rfl 7 (by decide) (hts (.fieldLink RX8 16 "TheLiningsInItModel" "gap" "I") (List.mem_of_getElem? (i := 3) rfl)) (fun _ h9 => h9) rfl dX8_doesCatch_16 ?_
    refine lv_icmp_lt (tgt := 26) hx hb dX8_doesCatch_19 (by decide) (fun c_4 => ?_) (fun c_4 => ?_)
    · have fc_4 : x_3.toInt < nga.toInt := zf_lt c_4 rfl rfl
      refine lv_iconst (v := 0) hx hb dX8_doesCatch_26 (by decide) ?_
      exact W.zret (v := 0) hx hb hr (by decide) (fun t ht hW => ⟨0, rfl, ⟨by decide, by decide⟩, ht⟩) (fun q hq => by cases hq) dX8_doesCatch_27
    · have fc_4 : nga.toInt ≤ x_3.toInt := zf_nlt c_4 rfl rfl
      refine lv_iconst (v := 1) hx hb dX8_doesCatch_22 (by decide) ?_
      refine lv_goto (tgt := 27) hx hb dX8_doesCatch_23 (by decide) ?_
      exact W.zret (v := 1) hx hb hr (by decide) (fun t ht hW => ⟨1, rfl, ⟨by decide, by decide⟩, ht⟩) (fun q hq => by cases hq) dX8_doesCatch_27
theorem hi_X8_catches_8 : ∀ w ∈ u_ws RX8 TX8 38, w ∈ wsX8_catches := fun w h => (gl_X8_catches_X80 w h).1
theorem hi_X8_stitches_8 : ∀ w ∈ u_ws RX8 TX8 38, w ∈ wsX8_stitches := fun w h => (gl_X8_stitches_X80 w h).1
theorem hi_X8_closed_8 : ∀ w ∈ u_ws RX8 TX8 38, w ∈ wsX8_closed := fun w h => (gl_X8_closed_X80 w h).1
set_option maxHeartbeats 4000000 in
set_option maxRecDepth 100000 in
theorem c_M_closed (l : Launch) (D : va_G) (cI cJ cZ cP cS : ClassId) (po : zPool) (m0 mrf mki mpa mta mla msl mco mhe mso msi msh mce mca mwo mnu mte mwa mke mma mth mtr : Nat) (npu nte nat_ nde nto nse nhu nga nsd nfa nba npl nen nnu nwr nra nik : Int32) (gla gsl : Nat → Int32) (hy0 : 0 ≤ npu.toInt) (hy1 : npu.toInt ≤ 8) (hy2 : 4 ≤ nte.toInt) (hy3 : nte.toInt ≤ 40) (hy4 : 0 ≤ nat_.toInt) (hy5 : nat_.toInt ≤ 40) (hy6 : 0 ≤ nde.toInt) (hy7 : nde.toInt ≤ 24) (hy8 : 0 ≤ nhu.toInt) (hy9 : nhu.toInt ≤ 9) (hy10 : 0 ≤ nra.toInt) (hy11 : nra.toInt ≤ 2000) (hy12 : 0 ≤ nik.toInt) (hy13 : nik.toInt ≤ 1) (hp_gla : zRg gla (0) 1) (hp_gsl : zRg gsl (0) 9) : Met l yX8_closed wsX8_closed ({ frames := 1, cells := 0, slots := 0, locals := 21 }) (va_Pc [.ref m0] (zR D (zKT cI cJ cZ cP cS) po [(zMO m0 npu nte nat_ nde nto nse nhu nga nsd nfa mrf mki mpa mta mla msl mco mhe mso msi msh mce mca mwo mnu mte nba npl nen nnu nwr mwa mke mma mth mtr nra nik), (mla, .inl (cI, 40, .inl gla)), (msl, .inl (cI, 40, .inl gsl))])) (vp_Si (fun r => True)) 0 0 (fun _ => False) := by
  refine Met.ofW (cc := cX8_closed) (maxL := 2) (ret := (some .int)) (by decide) rfl ?_
  intro p e s m args below meth c s₁ B hml hv
  obtain ⟨rfl, hP, hK, hN, hZ⟩ := hv
  have hx := B.exec
  have hb := B.bytes
  have hr := B.returns
  have hts := atoms_spec (ws := wsX8_closed) B.pre
  have hown : s.vm.findClass RX8 = some m.cls := findClass_of_methodNamed B.named
  have hlocks := B.notSynchronized
  have hl := lv_entry ([.ref m0]) (n := 2) (Nat.le_of_ble_eq_true rfl)
  rw [lg_entry_eq]
  generalize (lg_sl ([.ref m0]) ++ List.replicate (2 - (lg_sl ([.ref m0])).length) Slot.unset).toArray = ls at hl ⊢
  replace hl : lv_has ls 2 [(0, .ref m0)] := hl
  refine lv_aload_n hx hb dX8_closed_0 rfl (lv_at hl 0 rfl) ?_
  refine va_get (D := D) (ci := 8) (v := .int nat_) (C := RX8) (T := TX8) (N := 38) hx hb hts hi_X8_closed_8 hown hK hP 0 rfl rfl 2 (by decide) (hts (.fieldLink RX8 122 "TheLiningsInItModel" "at" "I") (List.mem_of_getElem? (i := 1) rfl)) (fun _ h9 => h9) rfl dX8_closed_1 ?_
  refine lv_istore_n (lv' := [(1, .int nat_), (0, .ref m0)]) hx hb dX8_closed_4 rfl hl (by decide) rfl (fun ls hl => ?_)
  obtain ⟨i_5, hi_5⟩ : ∃ i : Int32, i = nat_ := ⟨_, rfl⟩
  replace hl : lv_has ls 2 [(1, .int i_5), (0, .ref m0)] := by rw [hi_5]; exact lv_sub hl [0, 1] rfl
  have h1i_5 : i_5.toInt = nat_.toInt := by rw [hi_5]
  obtain ⟨nfu, hni_5⟩ : ∃ nq9 : Nat, nte.toInt ≤ i_5.toInt + (nq9 : Int) := ⟨((nte.toInt : Int) - nat_.toInt).toNat, by omega⟩
  have hloi_5 : 0 ≤ i_5.toInt := by omega
  clear h1i_5 hi_5
  revert hni_5
  revert hloi_5
  revert hl
  revert ls
  revert i_5
  induction nfu with
  | zero =>
    intro i_5 ls hl hloi_5 hni_5
    have hzi_5 : nte.toInt ≤ i_5.toInt := by omega
    refine lv_iload_n hx hb dX8_closed_5 rfl (lv_at hl 0 rfl) ?_
    refine lv_aload_n hx hb dX8_closed_6 rfl (lv_at hl 1 rfl) ?_
    refine va_get (D := D) (ci := 8) (v := .int nte) (C := RX8) (T := TX8) (N := 38) hx hb hts hi_X8_closed_8 hown hK hP 0 rfl rfl 1 (by decide) (hts (.fieldLink RX8 7 "TheLiningsInItModel" "teeth" "I") (List.mem_of_getElem? (i := 2) rfl)) (fun _ h9 => h9) rfl dX8_closed_7 ?_
    refine lv_icmp_ge (tgt := 35) hx hb dX8_closed_10 (by decide) (fun c_1 => ?_) (fun c_1 => ?_)
    · have fc_1 : nte.toInt ≤ i_5.toInt := zf_le c_1 rfl rfl
      refine lv_iload_n hx hb dX8_closed_35 rfl (lv_at hl 0 rfl) ?_
      exact W.iret (v := i_5) hx hb hr (fun t ht hW => ⟨i_5, rfl, trivial, ht⟩) (fun q hq => by cases hq) dX8_closed_36
    · exfalso; have fc_1 : i_5.toInt < nte.toInt := zf_nle c_1 rfl rfl; omega
  | succ nfu ih =>
    intro i_5 ls hl hloi_5 hni_5
    refine lv_iload_n hx hb dX8_closed_5 rfl (lv_at hl 0 rfl) ?_
    refine lv_aload_n hx hb dX8_closed_6 rfl (lv_at hl 1 rfl) ?_
    refine va_get (D := D) (ci := 8) (v := .int nte) (C := RX8) (T := TX8) (N := 38) hx hb hts hi_X8_closed_8 hown hK hP 0 rfl rfl 1 (by decide) (hts (.fieldLink RX8 7 "TheLiningsInItModel" "teeth" "I") (List.mem_of_getElem? (i := 2) rfl)) (fun _ h9 => h9) rfl dX8_closed_7 ?_
    refine lv_icmp_ge (tgt := 35) hx hb dX8_closed_10 (by decide) (fun c_2 => ?_) (fun c_2 => ?_)
    · have fc_2 : nte.toInt ≤ i_5.toInt := zf_le c_2 rfl rfl
      refine lv_iload_n hx hb dX8_closed_35 rfl (lv_at hl 0 rfl) ?_
      exact W.iret (v := i_5) hx hb hr (fun t ht hW => ⟨i_5, rfl, trivial, ht⟩) (fun q hq => by cases hq) dX8_closed_36
    · have fc_2 : i_5.toInt < nte.toInt := zf_nle c_2 rfl rfl
      refine lv_aload_n hx hb dX8_closed_13 rfl (lv_at hl 1 rfl) ?_
      refine lv_iload_n hx hb dX8_closed_14 rfl (lv_at hl 0 rfl) ?_
      refine zc_V (As := [.int i_5]) (rest := []) ⟨hx, hb, hml, hown, hts⟩ (c_M_doesCatch l D cI cJ cZ cP cS po m0 mrf mki mpa mta mla msl mco mhe mso msi msh mce mca mwo mnu mte mwa mke mma mth mtr (npu) (nte) (nat_) (nde) (nto) (nse) (nhu) (nga) (nsd) (nfa) (nba) (npl) (nen) (nnu) (nwr) (nra) (nik) gla gsl (i_5) hy0 hy1 hy2 hy3 hy4 hy5 hy6 hy7 hy8 hy9 hy10 hy11 hy12 hy13 (by omega) (by omega) hp_gla hp_gsl) (cwV 1 hts gX8_closed_X8_doesCatch rfl rfl rfl ⟨rfl, dh_X8_doesCatch⟩ ⟨Nat.le_of_ble_eq_true rfl, Nat.le_of_ble_eq_true rfl⟩) hK hN hZ hP (hP.sub [0, 1, 2] rfl) (va_recv (q := (RX8, TX8, 38)) hK hP (ci := 8) (q0 := 0) rfl rfl) rfl hl.1 rfl (Nat.le_of_ble_eq_true rfl) dX8_closed_15 ⟨Nat.le_of_ble_eq_true rfl, Nat.le_of_ble_eq_true rfl⟩ (fun r_3 hr_3 => ?_)
      obtain ⟨g_4, g_5⟩ := hr_3
      refine lv_if_ne (tgt := 35) hx hb dX8_closed_18 (by decide) (fun c_6 => ?_) (fun c_6 => ?_)
      · have fc_6 : r_3.toInt ≠ 0 := zf_ne c_6 rfl (by decide)
        refine lv_iload_n hx hb dX8_closed_35 rfl (lv_at hl 0 rfl) ?_
        exact W.iret (v := i_5) hx hb hr (fun t ht hW => ⟨i_5, rfl, trivial, ht⟩) (fun q hq => by cases hq) dX8_closed_36
      · have fc_6 : r_3.toInt = 0 := zf_eq c_6 rfl (by decide)
        refine lv_aload_n hx hb dX8_closed_21 rfl (lv_at hl 1 rfl) ?_
        refine lv_iload_n hx hb dX8_closed_22 rfl (lv_at hl 0 rfl) ?_
        refine zc_V (As := [.int i_5]) (rest := []) ⟨hx, hb, hml, hown, hts⟩ (c_M_isOpen l D cI cJ cZ cP cS po m0 mrf mki mpa mta mla msl mco mhe mso msi msh mce mca mwo mnu mte mwa mke mma mth mtr (npu) (nte) (nat_) (nde) (nto) (nse) (nhu) (nga) (nsd) (nfa) (nba) (npl) (nen) (nnu) (nwr) (nra) (nik) gla (i_5) hy0 hy1 hy2 hy3 hy4 hy5 hy6 hy7 hy8 hy9 hy10 hy11 hy12 hy13 (by omega) (by omega) hp_gla) (cwV 1 hts gX8_closed_X8_isOpen rfl rfl rfl ⟨rfl, dh_X8_isOpen⟩ ⟨Nat.le_of_ble_eq_true rfl, Nat.le_of_ble_eq_true rfl⟩) hK hN hZ hP (hP.sub [0, 1] rfl) (va_recv (q := (RX8, TX8, 38)) hK hP (ci := 8) (q0 := 0) rfl rfl) rfl hl.1 rfl (Nat.le_of_ble_eq_true rfl) dX8_closed_23 ⟨Nat.le_of_ble_eq_true rfl, Nat.le_of_ble_eq_true rfl⟩ (fun r_7 hr_7 => ?_)
        obtain ⟨g_8, g_9⟩ := hr_7
        refine lv_if_ne (tgt := 35) hx hb dX8_closed_26 (by decide) (fun c_10 => ?_) (fun c_10 => ?_)
        · have fc_10 : r_7.toInt ≠ 0 := zf_ne c_10 rfl (by decide)
          refine lv_iload_n hx hb dX8_closed_35 rfl (lv_at hl 0 rfl) ?_
          exact W.iret (v := i_5) hx hb hr (fun t ht hW => ⟨i_5, rfl, trivial, ht⟩) (fun q hq => by cases hq) dX8_closed_36
        · have fc_10 : r_7.toInt = 0 := zf_eq c_10 rfl (by decide)
          obtain ⟨x_11, ex_11⟩ : ∃ y : Int32, y = i_5 + 1 := ⟨_, rfl⟩
          have qx_11 : x_11.toInt = i_5.toInt + 1 := dw_inc ex_11 fc_2
          refine lv_iinc (v := x_11) (lv' := [(1, .int x_11), (0, .ref m0)]) hx hb dX8_closed_29 hl (k := 0) rfl ex_11.symm (by decide) rfl (fun ls hl => ?_)
          refine lv_goto (tgt := 5) hx hb dX8_closed_32 (by decide) ?_
          exact ih x_11 _ (lv_sub hl [0, 1] rfl) (dw_lo hloi_5 qx_11) (dw_hn hni_5 qx_11)
theorem hi_X8_stitch_8 : ∀ w ∈ u_ws RX8 TX8 38, w ∈ wsX8_stitch := fun w h => (gl_X8_stitch_X80 w h).1
end
section
theorem hi_X8_judge_8 : ∀ w ∈ u_ws RX8 TX8 38, w ∈ wsX8_judge := fun w h => (gl_X8_judge_X80 w h).1
set_option maxHeartbeats 4000000 in
set_option maxRecDepth 100000 in
theorem c_M_judge (l : Launch) (D : va_G) (cI cJ cZ cP cS : ClassId) (po : zPool) (m0 mrf mki mpa mta mla msl mco mhe mso msi msh mce mca mwo mnu mte mwa mke mma mth mtr : Nat) (npu nte nat_ nde nto nse nhu nga nsd nfa nba npl nen nnu nwr nra nik : Int32) (grf ghe gsi gki gpa gta : Nat → Int32) (gce : Nat → Int64) (s_ n : Int32) (hy0 : 0 ≤ npu.toInt) (hy1 : npu.toInt ≤ 8) (hy2 : 4 ≤ nte.toInt) (hy3 : nte.toInt ≤ 40) (hy4 : 0 ≤ nat_.toInt) (hy5 : nat_.toInt ≤ 40) (hy6 : 0 ≤ nde.toInt) (hy7 : nde.toInt ≤ 24) (hy8 : 0 ≤ nhu.toInt) (hy9 : nhu.toInt ≤ 9) (hy10 : 0 ≤ nra.toInt) (hy11 : nra.toInt ≤ 2000) (hy12 : 0 ≤ nik.toInt) (hy13 : nik.toInt ≤ 1) (hp_ghe : zRg ghe (0) 2) (hp_gsi : zRg gsi (0) 160) (hp_gki : zRg gki (0) 6) (hp_gpa : zRg gpa (0) 9) (hp_gta : zRg gta (0) 60) (hpz : Nat) : Met l yX8_judge wsX8_judge ({ frames := 2, cells := 0, slots := 0, locals := 45 }) (va_Pc [.ref m0, .int s_, .int n] (zW D (zKT cI cJ cZ cP cS) po [(zMO m0 npu nte nat_ nde nto nse nhu nga nsd nfa mrf mki mpa mta mla msl mco mhe mso msi msh mce mca mwo mnu mte nba npl nen nnu nwr mwa mke mma mth mtr nra nik), (mrf, .inl (cI, 8, .inl grf)), (mhe, .inl (cI, 8, .inl ghe)), (msi, .inl (cI, 8, .inl gsi)), (mce, .inl (cJ, 1280, .inr (.inl gce))), (mki, .inl (cI, 8, .inl gki)), (mpa, .inl (cI, 8, .inl gpa)), (mta, .inl (cI, 8, .inl gta))] hpz)) (va_Qi (fun (r : Int32) (grf2 : (Nat → Int32)) => True) (zB D [(zMO m0 npu nte nat_ nde nto nse nhu nga nsd nfa mrf mki mpa mta mla msl mco mhe mso msi msh mce mca mwo mnu mte nba npl nen nnu nwr mwa mke mma mth mtr nra nik), (mrf, .inl (cI, 8, .inl grf)), (mhe, .inl (cI, 8, .inl ghe)), (msi, .inl (cI, 8, .inl gsi)), (mce, .inl (cJ, 1280, .inr (.inl gce))), (mki, .inl (cI, 8, .inl gki)), (mpa, .inl (cI, 8, .inl gpa)), (mta, .inl (cI, 8, .inl gta))] hpz (fun (grf2 : Nat → Int32) => [(zMO m0 npu nte nat_ nde nto nse nhu nga nsd nfa mrf mki mpa mta mla msl mco mhe mso msi msh mce mca mwo mnu mte nba npl nen nnu nwr mwa mke mma mth mtr nra nik), (mrf, .inl (cI, 8, .inl grf2)), (mhe, .inl (cI, 8, .inl ghe)), (msi, .inl (cI, 8, .inl gsi)), (mce, .inl (cJ, 1280, .inr (.inl gce))), (mki, .inl (cI, 8, .inl gki)), (mpa, .inl (cI, 8, .inl gpa)), (mta, .inl (cI, 8, .inl gta))])) (va_A [(zMO m0 npu nte nat_ nde nto nse nhu nga nsd nfa mrf mki mpa mta mla msl mco mhe mso msi msh mce mca mwo mnu mte nba npl nen nnu nwr mwa mke mma mth mtr nra nik), (mrf, .inl (cI, 8, .inl grf)), (mhe, .inl (cI, 8, .inl ghe)), (msi, .inl (cI, 8, .inl gsi)), (mce, .inl (cJ, 1280, .inr (.inl gce))), (mki, .inl (cI, 8, .inl gki)), (mpa, .inl (cI, 8, .inl gpa)), (mta, .inl (cI, 8, .inl gta))] hpz)) 0 0 (va_A [(zMO m0 npu nte nat_ nde nto nse nhu nga nsd nfa mrf mki mpa mta mla msl mco mhe mso msi msh mce mca mwo mnu mte nba npl nen nnu nwr mwa mke mma mth mtr nra nik), (mrf, .inl (cI, 8, .inl grf)), (mhe, .inl (cI, 8, .inl ghe)), (msi, .inl (cI, 8, .inl gsi)), (mce, .inl (cJ, 1280, .inr (.inl gce))), (mki, .inl (cI, 8, .inl gki)), (mpa, .inl (cI, 8, .inl gpa)), (mta, .inl (cI, 8, .inl gta))] hpz) := by
  refine Met.ofW (cc := cX8_judge) (maxL := 8) (ret := (some .int)) (by decide) rfl ?_
  intro p e s m args below meth c s₁ B hml hv
  obtain ⟨rfl, hsz, hP, hK, hD0, hN, hZ⟩ := hv
  have hx := B.exec
  have hb := B.bytes
  have hr := B.returns
  have hts := atoms_spec (ws := wsX8_judge) B.pre
  have hown : s.vm.findClass RX8 = some m.cls := findClass_of_methodNamed B.named
  have hlocks := B.notSynchronized
  subst hsz
  have hD := hD0.self (sz := s.heap.size)
  have hA := zA_of hD
  have hl := lv_entry ([.ref m0, .int s_, .int n]) (n := 8) (Nat.le_of_ble_eq_true rfl)
  rw [lg_entry_eq]
  generalize (lg_sl ([.ref m0, .int s_, .int n]) ++ List.replicate (8 - (lg_sl ([.ref m0, .int s_, .int n])).length) Slot.unset).toArray = ls at hl ⊢
  replace hl : lv_has ls 8 [(0, .ref m0), (1, .int s_), (2, .int n)] := hl
  refine zw_begin hP hD (fun H locs hP1 hS => ?_)
  clear hP
  have hP := hP1
  clear hP1
  refine zcut (T := fun K => ∀ (H : Heap) (locs : List Loc) (ls : Array Slot) (hP : va_P D vwCl [(zMO m0 npu nte nat_ nde nto nse nhu nga nsd nfa mrf mki mpa mta mla msl mco mhe mso msi msh mce mca mwo mnu mte nba npl nen nnu nwr mwa mke mma mth mtr nra nik), (mrf, .inl (cI, 8, .inl grf)), (mhe, .inl (cI, 8, .inl ghe)), (msi, .inl (cI, 8, .inl gsi)), (mce, .inl (cJ, 1280, .inr (.inl gce))), (mki, .inl (cI, 8, .inl gki)), (mpa, .inl (cI, 8, .inl gpa)), (mta, .inl (cI, 8, .inl gta))] H) (hD : va_D (va_A [(zMO m0 npu nte nat_ nde nto nse nhu nga nsd nfa mrf mki mpa mta mla msl mco mhe mso msi msh mce mca mwo mnu mte nba npl nen nnu nwr mwa mke mma mth mtr nra nik), (mrf, .inl (cI, 8, .inl grf)), (mhe, .inl (cI, 8, .inl ghe)), (msi, .inl (cI, 8, .inl gsi)), (mce, .inl (cJ, 1280, .inr (.inl gce))), (mki, .inl (cI, 8, .inl gki)), (mpa, .inl (cI, 8, .inl gpa)), (mta, .inl (cI, 8, .inl gta))] s.heap.size) [(zMO m0 npu nte nat_ nde nto nse nhu nga nsd nfa mrf mki mpa mta mla msl mco mhe mso msi msh mce mca mwo mnu mte nba npl nen nnu nwr mwa mke mma mth mtr nra nik), (mrf, .inl (cI, 8, .inl grf)), (mhe, .inl (cI, 8, .inl ghe)), (msi, .inl (cI, 8, .inl gsi)), (mce, .inl (cJ, 1280, .inr (.inl gce))), (mki, .inl (cI, 8, .inl gki)), (mpa, .inl (cI, 8, .inl gpa)), (mta, .inl (cI, 8, .inl gta))]) (hS : va_S (va_A [(zMO m0 npu nte nat_ nde nto nse nhu nga nsd nfa mrf mki mpa mta mla msl mco mhe mso msi msh mce mca mwo mnu mte nba npl nen nnu nwr mwa mke mma mth mtr nra nik), (mrf, .inl (cI, 8, .inl grf)), (mhe, .inl (cI, 8, .inl ghe)), (msi, .inl (cI, 8, .inl gsi)), (mce, .inl (cJ, 1280, .inr (.inl gce))), (mki, .inl (cI, 8, .inl gki)), (mpa, .inl (cI, 8, .inl gpa)), (mta, .inl (cI, 8, .inl gta))] s.heap.size) s.heap H locs) (hl : lv_has ls 8 [(0, .ref m0), (1, .int s_), (2, .int n), (4, .int nde), (5, .int nse)]) (hf69_0 : (0 ≤ s_.toInt ∧ s_.toInt ≤ 7) ∧ 0 ≤ n.toInt ∧ n.toInt ≤ 20), K H locs ls) (pc := 69) ?_ (fun hcut69 => ?_)
  · intro H locs ls hP hD hS hl hf69_0
    refine lv_iconst (v := 0) hx hb dX8_judge_69 (by decide) ?_
    refine lv_istore (lv' := [(6, .int 0), (0, .ref m0), (1, .int s_), (2, .int n), (4, .int nde), (5, .int nse)]) hx hb dX8_judge_70 hl (by decide) rfl (fun ls hl => ?_)
    obtain ⟨i_72, hi_72⟩ : ∃ i : Int32, i = 0 := ⟨_, rfl⟩
    replace hl : lv_has ls 8 [(6, .int i_72), (0, .ref m0), (1, .int s_), (2, .int n), (4, .int nde), (5, .int nse)] := by rw [hi_72]; exact lv_sub hl [0, 1, 2, 3, 4, 5] rfl
    have h1i_72 : i_72.toInt = 0 := by rw [hi_72]; decide
    obtain ⟨nfu, hni_72⟩ : ∃ nq9 : Nat, n.toInt ≤ i_72.toInt + (nq9 : Int) := ⟨((n.toInt : Int) - 0).toNat, by omega⟩
    have hloi_72 : 0 ≤ i_72.toInt := by omega
    obtain ⟨v_1, hv_1⟩ : ∃ g : Int32, g = nde := ⟨_, rfl⟩
    obtain ⟨v_2, hv_2⟩ : ∃ g : Int32, g = nse := ⟨_, rfl⟩
    replace hl : lv_has ls 8 [(6, .int i_72), (0, .ref m0), (1, .int s_), (2, .int n), (4, .int v_1), (5, .int v_2)] := by rw [hv_1, hv_2]; exact hl
    have hbv_1 : 0 ≤ v_1.toInt ∧ v_1.toInt ≤ 24 := by rw [hv_1]; exact ⟨by omega, by omega⟩
    clear h1i_72 hi_72 hv_1 hv_2
    skip
    revert hni_72
    revert hloi_72
    revert hbv_1
    revert hl
    revert hS
    revert hD
    revert hP
    revert ls
    revert locs
    revert H
    revert v_2
    revert v_1
    revert i_72
    induction nfu with
    | zero =>
      intro i_72 v_1 v_2 H locs ls hP hD hS hl hbv_1 hloi_72 hni_72
      have hzi_72 : n.toInt ≤ i_72.toInt := by omega
      refine lv_iload hx hb dX8_judge_72 (lv_at hl 0 rfl) ?_
      refine lv_iload_n hx hb dX8_judge_74 rfl (lv_at hl 3 rfl) ?_
      refine lv_icmp_ge (tgt := 158) hx hb dX8_judge_75 (by decide) (fun c_3 => ?_) (fun c_3 => ?_)
      · have fc_3 : n.toInt ≤ i_72.toInt := zf_le c_3 rfl rfl
        refine lv_iconst (v := (-1)) hx hb dX8_judge_158 (by decide) ?_
        exact W.iret (v := (-1)) hx hb hr (fun t ht hW => ⟨⟨(-1), grf, rfl, trivial, zRet ht hP hD [0, 1, 2, 3, 4, 5, 6, 7] (by decide) rfl⟩, hS.F ht⟩) hS.2.2 dX8_judge_159
      · exfalso; have fc_3 : i_72.toInt < n.toInt := zf_nle c_3 rfl rfl; omega
    | succ nfu ih =>
      intro i_72 v_1 v_2 H locs ls hP hD hS hl hbv_1 hloi_72 hni_72
      refine lv_iload hx hb dX8_judge_72 (lv_at hl 0 rfl) ?_
      refine lv_iload_n hx hb dX8_judge_74 rfl (lv_at hl 3 rfl) ?_
      refine lv_icmp_ge (tgt := 158) hx hb dX8_judge_75 (by decide) (fun c_4 => ?_) (fun c_4 => ?_)
      · have fc_4 : n.toInt ≤ i_72.toInt := zf_le c_4 rfl rfl
        refine lv_iconst (v := (-1)) hx hb dX8_judge_158 (by decide) ?_
        exact W.iret (v := (-1)) hx hb hr (fun t ht hW => ⟨⟨(-1), grf, rfl, trivial, zRet ht hP hD [0, 1, 2, 3, 4, 5, 6, 7] (by decide) rfl⟩, hS.F ht⟩) hS.2.2 dX8_judge_159
      · have fc_4 : i_72.toInt < n.toInt := zf_nle c_4 rfl rfl
        refine lv_aload_n hx hb dX8_judge_78 rfl (lv_at hl 1 rfl) ?_
        refine lv_iload_n hx hb dX8_judge_79 rfl (lv_at hl 2 rfl) ?_
        refine lv_iload hx hb dX8_judge_80 (lv_at hl 0 rfl) ?_
        refine zc_V (As := [.int s_, .int i_72]) (rest := []) ⟨hx, hb, hml, hown, hts⟩ (c_M_intAt l D cI cJ cZ cP cS po m0 mrf mki mpa mta mla msl mco mhe mso msi msh mce mca mwo mnu mte mwa mke mma mth mtr (npu) (nte) (nat_) (nde) (nto) (nse) (nhu) (nga) (nsd) (nfa) (nba) (npl) (nen) (nnu) (nwr) (nra) (nik) gce (s_) (i_72) hy0 hy1 hy2 hy3 hy4 hy5 hy6 hy7 hy8 hy9 hy10 hy11 hy12 hy13 (by omega) (by omega) (by omega) (by omega)) (cwV 2 hts gX8_judge_X8_intAt rfl rfl rfl ⟨rfl, dh_X8_intAt⟩ ⟨Nat.le_of_ble_eq_true rfl, Nat.le_of_ble_eq_true rfl⟩) hK hN (hZ.kept hS) hP (hP.sub [0, 4] rfl) (va_recv (q := (RX8, TX8, 38)) hK hP (ci := 8) (q0 := 0) rfl rfl) rfl hl.1 rfl (Nat.le_of_ble_eq_true rfl) dX8_judge_82 ⟨Nat.le_of_ble_eq_true rfl, Nat.le_of_ble_eq_true rfl⟩ (fun r_5 hr_5 => ?_)
        refine lv_istore (lv' := [(7, .int r_5), (6, .int i_72), (0, .ref m0), (1, .int s_), (2, .int n), (4, .int v_1), (5, .int v_2)]) hx hb dX8_judge_85 hl (by decide) rfl (fun ls hl => ?_)
        refine lv_aload_n hx hb dX8_judge_87 rfl (lv_at hl 2 rfl) ?_
        refine lv_iload hx hb dX8_judge_88 (lv_at hl 0 rfl) ?_
        refine zc_V (As := [.int r_5]) (rest := []) ⟨hx, hb, hml, hown, hts⟩ (c_M_isPull l D cI cJ cZ cP cS po m0 mrf mki mpa mta mla msl mco mhe mso msi msh mce mca mwo mnu mte mwa mke mma mth mtr (npu) (nte) (nat_) (nde) (nto) (nse) (nhu) (nga) (nsd) (nfa) (nba) (npl) (nen) (nnu) (nwr) (nra) (nik) (r_5) hy0 hy1 hy2 hy3 hy4 hy5 hy6 hy7 hy8 hy9 hy10 hy11 hy12 hy13) (cwV 1 hts gX8_judge_X8_isPull rfl rfl rfl ⟨rfl, dh_X8_isPull⟩ ⟨Nat.le_of_ble_eq_true rfl, Nat.le_of_ble_eq_true rfl⟩) hK hN (hZ.kept hS) hP (hP.sub [0] rfl) (va_recv (q := (RX8, TX8, 38)) hK hP (ci := 8) (q0 := 0) rfl rfl) rfl hl.1 rfl (Nat.le_of_ble_eq_true rfl) dX8_judge_90 ⟨Nat.le_of_ble_eq_true rfl, Nat.le_of_ble_eq_true rfl⟩ (fun r_6 hr_6 => ?_)
        rcases hr_6 with ⟨rfl, g_7⟩ | ⟨rfl, g_8, g_9⟩ | ⟨rfl, g_10, g_11⟩
        · refine lv_if_eq (tgt := 109) hx hb dX8_judge_93 (by decide) (fun c_12 => ?_) (fun c_12 => ?_)
          · refine lv_iload hx hb dX8_judge_109 (lv_at hl 1 rfl) ?_
            exact W.iret (v := i_72) hx hb hr (fun t ht hW => ⟨⟨i_72, grf, rfl, trivial, zRet ht hP hD [0, 1, 2, 3, 4, 5, 6, 7] (by decide) rfl⟩, hS.F ht⟩) hS.2.2 dX8_judge_111
          · exact absurd c_12 (by decide)
        · refine lv_if_eq (tgt := 109) hx hb dX8_judge_93 (by decide) (fun c_13 => ?_) (fun c_13 => ?_)
          · refine lv_iload hx hb dX8_judge_109 (lv_at hl 1 rfl) ?_
            exact W.iret (v := i_72) hx hb hr (fun t ht hW => ⟨⟨i_72, grf, rfl, trivial, zRet ht hP hD [0, 1, 2, 3, 4, 5, 6, 7] (by decide) rfl⟩, hS.F ht⟩) hS.2.2 dX8_judge_111
          · exact absurd c_13 (by decide)
        · refine lv_if_eq (tgt := 109) hx hb dX8_judge_93 (by decide) (fun c_14 => ?_) (fun c_14 => ?_)
          · exact absurd c_14 (by decide)
          · refine lv_aload_n hx hb dX8_judge_96 rfl (lv_at hl 2 rfl) ?_
            refine lv_iload hx hb dX8_judge_97 (lv_at hl 0 rfl) ?_
            refine lv_iload hx hb dX8_judge_99 (lv_at hl 5 rfl) ?_
            refine lv_iload hx hb dX8_judge_101 (lv_at hl 6 rfl) ?_
            refine zc_V (As := [.int r_5, .int v_1, .int v_2]) (rest := []) ⟨hx, hb, hml, hown, hts⟩ (c_M_mayBe l D cI cJ cZ cP cS po m0 mrf mki mpa mta mla msl mco mhe mso msi msh mce mca mwo mnu mte mwa mke mma mth mtr (npu) (nte) (nat_) (nde) (nto) (nse) (nhu) (nga) (nsd) (nfa) (nba) (npl) (nen) (nnu) (nwr) (nra) (nik) gta (r_5) (v_1) (v_2) hy0 hy1 hy2 hy3 hy4 hy5 hy6 hy7 hy8 hy9 hy10 hy11 hy12 hy13 (by omega) (by omega) hp_gta) (cwV 3 hts gX8_judge_X8_mayBe rfl rfl rfl ⟨rfl, dh_X8_mayBe⟩ ⟨Nat.le_of_ble_eq_true rfl, Nat.le_of_ble_eq_true rfl⟩) hK hN (hZ.kept hS) hP (hP.sub [0, 7] rfl) (va_recv (q := (RX8, TX8, 38)) hK hP (ci := 8) (q0 := 0) rfl rfl) rfl hl.1 rfl (Nat.le_of_ble_eq_true rfl) dX8_judge_103 ⟨Nat.le_of_ble_eq_true rfl, Nat.le_of_ble_eq_true rfl⟩ (fun r_15 hr_15 => ?_)
            obtain ⟨g_16, g_17, hsr_15_0⟩ := hr_15
            refine lv_if_ne (tgt := 112) hx hb dX8_judge_106 (by decide) (fun c_18 => ?_) (fun c_18 => ?_)
            · have fc_18 : r_15.toInt ≠ 0 := zf_ne c_18 rfl (by decide)
              refine lv_aload_n hx hb dX8_judge_112 rfl (lv_at hl 2 rfl) ?_
              refine lv_iload hx hb dX8_judge_113 (lv_at hl 0 rfl) ?_
              refine lv_iload hx hb dX8_judge_115 (lv_at hl 5 rfl) ?_
              refine lv_aload_n hx hb dX8_judge_117 rfl (lv_at hl 2 rfl) ?_
              refine lv_iload hx hb dX8_judge_118 (lv_at hl 0 rfl) ?_
              refine lv_iload hx hb dX8_judge_120 (lv_at hl 5 rfl) ?_
              refine zc_V (As := [.int r_5, .int v_1]) (rest := [.int v_1, .int r_5, .ref m0]) ⟨hx, hb, hml, hown, hts⟩ (c_M_ways l D cI cJ cZ cP cS po m0 mrf mki mpa mta mla msl mco mhe mso msi msh mce mca mwo mnu mte mwa mke mma mth mtr (npu) (nte) (nat_) (nde) (nto) (nse) (nhu) (nga) (nsd) (nfa) (nba) (npl) (nen) (nnu) (nwr) (nra) (nik) gki gpa (r_5) (v_1) hy0 hy1 hy2 hy3 hy4 hy5 hy6 hy7 hy8 hy9 hy10 hy11 hy12 hy13 (by omega) (by omega) hp_gki hp_gpa) (cwV 2 hts gX8_judge_X8_ways rfl rfl rfl ⟨rfl, dh_X8_ways⟩ ⟨Nat.le_of_ble_eq_true rfl, Nat.le_of_ble_eq_true rfl⟩) hK hN (hZ.kept hS) hP (hP.sub [0, 5, 6] rfl) (va_recv (q := (RX8, TX8, 38)) hK hP (ci := 8) (q0 := 0) rfl rfl) rfl hl.1 rfl (Nat.le_of_ble_eq_true rfl) dX8_judge_122 ⟨Nat.le_of_ble_eq_true rfl, Nat.le_of_ble_eq_true rfl⟩ (fun r_19 hr_19 => ?_)
              obtain ⟨g_20, g_21⟩ := hr_19
              refine lv_bipush (v := 6) hx hb dX8_judge_125 (by decide) ?_
              refine lv_icmp_lt (tgt := 134) hx hb dX8_judge_127 (by decide) (fun c_22 => ?_) (fun c_22 => ?_)
              · have fc_22 : r_19.toInt < 6 := zf_lt c_22 rfl (by decide)
                refine lv_iconst (v := 0) hx hb dX8_judge_134 (by decide) ?_
                refine zc_V (As := [.int r_5, .int v_1, .int 0]) (rest := []) ⟨hx, hb, hml, hown, hts⟩ (c_M_deep l D cI cJ cZ cP cS po m0 mrf mki mpa mta mla msl mco mhe mso msi msh mce mca mwo mnu mte mwa mke mma mth mtr (npu) (nte) (nat_) (nde) (nto) (nse) (nhu) (nga) (nsd) (nfa) (nba) (npl) (nen) (nnu) (nwr) (nra) (nik) gki gpa (r_5) (v_1) (0) hy0 hy1 hy2 hy3 hy4 hy5 hy6 hy7 hy8 hy9 hy10 hy11 hy12 hy13 (by omega) (by omega) hbv_1.1 hbv_1.2 hp_gki hp_gpa) (cwV 3 hts gX8_judge_X8_deep rfl rfl rfl ⟨rfl, dh_X8_deep⟩ ⟨Nat.le_of_ble_eq_true rfl, Nat.le_of_ble_eq_true rfl⟩) hK hN (hZ.kept hS) hP (hP.sub [0, 5, 6] rfl) (va_recv (q := (RX8, TX8, 38)) hK hP (ci := 8) (q0 := 0) rfl rfl) rfl hl.1 rfl (Nat.le_of_ble_eq_true rfl) dX8_judge_135 ⟨Nat.le_of_ble_eq_true rfl, Nat.le_of_ble_eq_true rfl⟩ (fun r_23 hr_23 => ?_)
                obtain ⟨g_24, g_25⟩ := hr_23
                refine lv_istore (lv' := [(4, .int r_23), (7, .int r_5), (6, .int i_72), (0, .ref m0), (1, .int s_), (2, .int n), (5, .int v_2)]) hx hb dX8_judge_138 hl (by decide) rfl (fun ls hl => ?_)
                refine lv_iload hx hb dX8_judge_140 (lv_at hl 6 rfl) ?_
                refine lv_aload_n hx hb dX8_judge_142 rfl (lv_at hl 3 rfl) ?_
                refine va_get (D := D) (ci := 8) (v := .ref mta) (C := RX8) (T := TX8) (N := 38) hx hb hts hi_X8_judge_8 hown hK hP 0 rfl rfl 13 (by decide) (hts (.fieldLink RX8 35 "TheLiningsInItModel" "takes" "[I") (List.mem_of_getElem? (i := 4) rfl)) (fun _ h9 => h9) rfl dX8_judge_143 ?_
                refine lv_iload hx hb dX8_judge_146 (lv_at hl 1 rfl) ?_
                refine va_iald hx hb hK hP 7 0 rfl rfl (zf_in (by omega) (by omega)) dX8_judge_148 ?_
                refine lv_topi (fun x_26 ex_26 => ?_)
                have bx_26 : 0 ≤ x_26.toInt ∧ x_26.toInt ≤ 60 := by rw [ex_26]; exact hp_gta _
                refine lv_isub hx hb dX8_judge_149 ?_
                refine lv_topi (fun x_27 ex_27 => ?_)
                refine lv_istore (lv' := [(5, .int x_27), (4, .int r_23), (7, .int r_5), (6, .int i_72), (0, .ref m0), (1, .int s_), (2, .int n)]) hx hb dX8_judge_150 hl (by decide) rfl (fun ls hl => ?_)
                obtain ⟨x_28, ex_28⟩ : ∃ y : Int32, y = i_72 + 1 := ⟨_, rfl⟩
                have qx_28 : x_28.toInt = i_72.toInt + 1 := dw_inc ex_28 fc_4
                refine lv_iinc (v := x_28) (lv' := [(6, .int x_28), (5, .int x_27), (4, .int r_23), (7, .int r_5), (0, .ref m0), (1, .int s_), (2, .int n)]) hx hb dX8_judge_152 hl (k := 3) rfl ex_28.symm (by decide) rfl (fun ls hl => ?_)
                refine lv_goto (tgt := 72) hx hb dX8_judge_155 (by decide) ?_
                exact ih x_28 r_23 x_27 _ _ _ (hP.sub [0, 1, 2, 3, 4, 5, 6, 7] rfl) (hD.sub [0, 1, 2, 3, 4, 5, 6, 7] (by decide) rfl) hS (lv_sub hl [0, 4, 5, 6, 2, 1] rfl) ⟨by omega, by omega⟩ (dw_lo hloi_72 qx_28) (dw_hn hni_72 qx_28)
              · have fc_22 : 6 ≤ r_19.toInt := zf_nlt c_22 rfl (by decide)
                refine lv_iconst (v := 1) hx hb dX8_judge_130 (by decide) ?_
                refine lv_goto (tgt := 135) hx hb dX8_judge_131 (by decide) ?_
                refine zc_V (As := [.int r_5, .int v_1, .int 1]) (rest := []) ⟨hx, hb, hml, hown, hts⟩ (c_M_deep l D cI cJ cZ cP cS po m0 mrf mki mpa mta mla msl mco mhe mso msi msh mce mca mwo mnu mte mwa mke mma mth mtr (npu) (nte) (nat_) (nde) (nto) (nse) (nhu) (nga) (nsd) (nfa) (nba) (npl) (nen) (nnu) (nwr) (nra) (nik) gki gpa (r_5) (v_1) (1) hy0 hy1 hy2 hy3 hy4 hy5 hy6 hy7 hy8 hy9 hy10 hy11 hy12 hy13 (by omega) (by omega) hbv_1.1 hbv_1.2 hp_gki hp_gpa) (cwV 3 hts gX8_judge_X8_deep rfl rfl rfl ⟨rfl, dh_X8_deep⟩ ⟨Nat.le_of_ble_eq_true rfl, Nat.le_of_ble_eq_true rfl⟩) hK hN (hZ.kept hS) hP (hP.sub [0, 5, 6] rfl) (va_recv (q := (RX8, TX8, 38)) hK hP (ci := 8) (q0 := 0) rfl rfl) rfl hl.1 rfl (Nat.le_of_ble_eq_true rfl) dX8_judge_135 ⟨Nat.le_of_ble_eq_true rfl, Nat.le_of_ble_eq_true rfl⟩ (fun r_29 hr_29 => ?_)
                obtain ⟨g_30, g_31⟩ := hr_29
                refine lv_istore (lv' := [(4, .int r_29), (7, .int r_5), (6, .int i_72), (0, .ref m0), (1, .int s_), (2, .int n), (5, .int v_2)]) hx hb dX8_judge_138 hl (by decide) rfl (fun ls hl => ?_)
                refine lv_iload hx hb dX8_judge_140 (lv_at hl 6 rfl) ?_
                refine lv_aload_n hx hb dX8_judge_142 rfl (lv_at hl 3 rfl) ?_
                refine va_get (D := D) (ci := 8) (v := .ref mta) (C := RX8) (T := TX8) (N := 38) hx hb hts hi_X8_judge_8 hown hK hP 0 rfl rfl 13 (by decide) (hts (.fieldLink RX8 35 "TheLiningsInItModel" "takes" "[I") (List.mem_of_getElem? (i := 4) rfl)) (fun _ h9 => h9) rfl dX8_judge_143 ?_
                refine lv_iload hx hb dX8_judge_146 (lv_at hl 1 rfl) ?_
                refine va_iald hx hb hK hP 7 0 rfl rfl (zf_in (by omega) (by omega)) dX8_judge_148 ?_
                refine lv_topi (fun x_32 ex_32 => ?_)
                have bx_32 : 0 ≤ x_32.toInt ∧ x_32.toInt ≤ 60 := by rw [ex_32]; exact hp_gta _
                refine lv_isub hx hb dX8_judge_149 ?_
                refine lv_topi (fun x_33 ex_33 => ?_)
                refine lv_istore (lv' := [(5, .int x_33), (4, .int r_29), (7, .int r_5), (6, .int i_72), (0, .ref m0), (1, .int s_), (2, .int n)]) hx hb dX8_judge_150 hl (by decide) rfl (fun ls hl => ?_)
                obtain ⟨x_34, ex_34⟩ : ∃ y : Int32, y = i_72 + 1 := ⟨_, rfl⟩
                have qx_34 : x_34.toInt = i_72.toInt + 1 := dw_inc ex_34 fc_4
                refine lv_iinc (v := x_34) (lv' := [(6, .int x_34), (5, .int x_33), (4, .int r_29), (7, .int r_5), (0, .ref m0), (1, .int s_), (2, .int n)]) hx hb dX8_judge_152 hl (k := 3) rfl ex_34.symm (by decide) rfl (fun ls hl => ?_)
                refine lv_goto (tgt := 72) hx hb dX8_judge_155 (by decide) ?_
                exact ih x_34 r_29 x_33 _ _ _ (hP.sub [0, 1, 2, 3, 4, 5, 6, 7] rfl) (hD.sub [0, 1, 2, 3, 4, 5, 6, 7] (by decide) rfl) hS (lv_sub hl [0, 4, 5, 6, 2, 1] rfl) ⟨by omega, by omega⟩ (dw_lo hloi_72 qx_34) (dw_hn hni_72 qx_34)
            · have fc_18 : r_15.toInt = 0 := zf_eq c_18 rfl (by decide)
              refine lv_iload hx hb dX8_judge_109 (lv_at hl 1 rfl) ?_
              exact W.iret (v := i_72) hx hb hr (fun t ht hW => ⟨⟨i_72, grf, rfl, trivial, zRet ht hP hD [0, 1, 2, 3, 4, 5, 6, 7] (by decide) rfl⟩, hS.F ht⟩) hS.2.2 dX8_judge_111
  refine lv_aload_n hx hb dX8_judge_0 rfl (lv_at hl 0 rfl) ?_
  refine lv_iload_n hx hb dX8_judge_1 rfl (lv_at hl 1 rfl) ?_
  refine zc_V (As := [.int s_]) (rest := []) ⟨hx, hb, hml, hown, hts⟩ (c_M_wanted l D cI cJ cZ cP cS po m0 mrf mki mpa mta mla msl mco mhe mso msi msh mce mca mwo mnu mte mwa mke mma mth mtr (npu) (nte) (nat_) (nde) (nto) (nse) (nhu) (nga) (nsd) (nfa) (nba) (npl) (nen) (nnu) (nwr) (nra) (nik) ghe (s_) hy0 hy1 hy2 hy3 hy4 hy5 hy6 hy7 hy8 hy9 hy10 hy11 hy12 hy13 hp_ghe) (cwV 1 hts gX8_judge_X8_wanted rfl rfl rfl ⟨rfl, dh_X8_wanted⟩ ⟨Nat.le_of_ble_eq_true rfl, Nat.le_of_ble_eq_true rfl⟩) hK hN (hZ.kept hS) hP (hP.sub [0, 2] rfl) (va_recv (q := (RX8, TX8, 38)) hK hP (ci := 8) (q0 := 0) rfl rfl) rfl hl.1 rfl (Nat.le_of_ble_eq_true rfl) dX8_judge_2 ⟨Nat.le_of_ble_eq_true rfl, Nat.le_of_ble_eq_true rfl⟩ (fun r_35 hr_35 => ?_)
  rcases hr_35 with ⟨rfl, g_36⟩ | ⟨rfl, g_37, g_38⟩ | ⟨rfl, g_39, g_40⟩ | ⟨rfl, g_41, g_42⟩ | ⟨rfl, g_43, g_44⟩
  · refine lv_istore_n (lv' := [(3, .int (-1)), (0, .ref m0), (1, .int s_), (2, .int n)]) hx hb dX8_judge_5 rfl hl (by decide) rfl (fun ls hl => ?_)
    refine lv_iload_n hx hb dX8_judge_6 rfl (lv_at hl 0 rfl) ?_
    refine lv_if_ne (tgt := 47) hx hb dX8_judge_7 (by decide) (fun c_45 => ?_) (fun c_45 => ?_)
    · refine lv_iload_n hx hb dX8_judge_47 rfl (lv_at hl 0 rfl) ?_
      refine lv_if_eq (tgt := 57) hx hb dX8_judge_48 (by decide) (fun c_46 => ?_) (fun c_46 => ?_)
      · exact absurd c_46 (by decide)
      · refine lv_aload_n hx hb dX8_judge_51 rfl (lv_at hl 1 rfl) ?_
        refine lv_iload_n hx hb dX8_judge_52 rfl (lv_at hl 0 rfl) ?_
        skip
        refine zw_V (As := [.int (-1)]) (rest := []) (wr := [(mhe, .inl (cI, 8, .inl ghe)), (msi, .inl (cI, 8, .inl gsi)), (mce, .inl (cJ, 1280, .inr (.inl gce))), (mki, .inl (cI, 8, .inl gki)), (mpa, .inl (cI, 8, .inl gpa)), (mta, .inl (cI, 8, .inl gta))]) ⟨hx, hb, hml, hown, hts⟩ (c_M_noTen_1 l D cI cJ cZ cP cS po m0 mrf mki mpa mta mla msl mco mhe mso msi msh mce mca mwo mnu mte mwa mke mma mth mtr (npu) (nte) (nat_) (nde) (nto) (nse) (nhu) (nga) (nsd) (nfa) (nba) (npl) (nen) (nnu) (nwr) (nra) (nik) grf hy0 hy1 hy2 hy3 hy4 hy5 hy6 hy7 hy8 hy9 hy10 hy11 hy12 hy13 H.size) (cwV 1 hts gX8_judge_X8_noTen rfl rfl rfl ⟨rfl, dh_X8_noTen⟩ ⟨Nat.le_of_ble_eq_true rfl, Nat.le_of_ble_eq_true rfl⟩) hK hN (hZ.kept hS) hP hD hS hA [0, 1] [2, 3, 4, 5, 6, 7] rfl rfl (by decide) (by decide) (by decide) (va_recv (q := (RX8, TX8, 38)) hK hP (ci := 8) (q0 := 0) rfl rfl) rfl hl.1 rfl (Nat.le_of_ble_eq_true rfl) dX8_judge_53 ⟨Nat.le_of_ble_eq_true rfl, Nat.le_of_ble_eq_true rfl⟩ (fun r_47 u_48 H locs hr_47 hP hD hS => ?_)
        obtain ⟨q_49, rfl⟩ : ∃ z, z = u_48 := ⟨_, rfl⟩
        have h9R := zRe (ws' := [(mhe, .inl (cI, 8, .inl ghe)), (msi, .inl (cI, 8, .inl gsi)), (mce, .inl (cJ, 1280, .inr (.inl gce))), (mki, .inl (cI, 8, .inl gki)), (mpa, .inl (cI, 8, .inl gpa)), (mta, .inl (cI, 8, .inl gta)), (zMO m0 npu nte nat_ nde nto nse nhu nga nsd nfa mrf mki mpa mta mla msl mco mhe mso msi msh mce mca mwo mnu mte nba npl nen nnu nwr mwa mke mma mth mtr nra nik), (mrf, .inl (cI, 8, .inl q_49))]) hP hD rfl
        clear hP hD
        obtain ⟨hP, hD⟩ := h9R
        obtain rfl := hr_47
        exact W.iret (v := (-11)) hx hb hr (fun t ht hW => ⟨⟨(-11), q_49, rfl, trivial, zRet ht hP hD [6, 7, 0, 1, 2, 3, 4, 5] (by decide) rfl⟩, hS.F ht⟩) hS.2.2 dX8_judge_56
    · exact absurd c_45 (by decide)
  · refine lv_istore_n (lv' := [(3, .int (-1)), (0, .ref m0), (1, .int s_), (2, .int n)]) hx hb dX8_judge_5 rfl hl (by decide) rfl (fun ls hl => ?_)
    refine lv_iload_n hx hb dX8_judge_6 rfl (lv_at hl 0 rfl) ?_
    refine lv_if_ne (tgt := 47) hx hb dX8_judge_7 (by decide) (fun c_50 => ?_) (fun c_50 => ?_)
    · refine lv_iload_n hx hb dX8_judge_47 rfl (lv_at hl 0 rfl) ?_
      refine lv_if_eq (tgt := 57) hx hb dX8_judge_48 (by decide) (fun c_51 => ?_) (fun c_51 => ?_)
      · exact absurd c_51 (by decide)
      · refine lv_aload_n hx hb dX8_judge_51 rfl (lv_at hl 1 rfl) ?_
        refine lv_iload_n hx hb dX8_judge_52 rfl (lv_at hl 0 rfl) ?_
        skip
        refine zw_V (As := [.int (-1)]) (rest := []) (wr := [(mhe, .inl (cI, 8, .inl ghe)), (msi, .inl (cI, 8, .inl gsi)), (mce, .inl (cJ, 1280, .inr (.inl gce))), (mki, .inl (cI, 8, .inl gki)), (mpa, .inl (cI, 8, .inl gpa)), (mta, .inl (cI, 8, .inl gta))]) ⟨hx, hb, hml, hown, hts⟩ (c_M_noTen_1 l D cI cJ cZ cP cS po m0 mrf mki mpa mta mla msl mco mhe mso msi msh mce mca mwo mnu mte mwa mke mma mth mtr (npu) (nte) (nat_) (nde) (nto) (nse) (nhu) (nga) (nsd) (nfa) (nba) (npl) (nen) (nnu) (nwr) (nra) (nik) grf hy0 hy1 hy2 hy3 hy4 hy5 hy6 hy7 hy8 hy9 hy10 hy11 hy12 hy13 H.size) (cwV 1 hts gX8_judge_X8_noTen rfl rfl rfl ⟨rfl, dh_X8_noTen⟩ ⟨Nat.le_of_ble_eq_true rfl, Nat.le_of_ble_eq_true rfl⟩) hK hN (hZ.kept hS) hP hD hS hA [0, 1] [2, 3, 4, 5, 6, 7] rfl rfl (by decide) (by decide) (by decide) (va_recv (q := (RX8, TX8, 38)) hK hP (ci := 8) (q0 := 0) rfl rfl) rfl hl.1 rfl (Nat.le_of_ble_eq_true rfl) dX8_judge_53 ⟨Nat.le_of_ble_eq_true rfl, Nat.le_of_ble_eq_true rfl⟩ (fun r_52 u_53 H locs hr_52 hP hD hS => ?_)
        obtain ⟨q_54, rfl⟩ : ∃ z, z = u_53 := ⟨_, rfl⟩
        have h9R := zRe (ws' := [(mhe, .inl (cI, 8, .inl ghe)), (msi, .inl (cI, 8, .inl gsi)), (mce, .inl (cJ, 1280, .inr (.inl gce))), (mki, .inl (cI, 8, .inl gki)), (mpa, .inl (cI, 8, .inl gpa)), (mta, .inl (cI, 8, .inl gta)), (zMO m0 npu nte nat_ nde nto nse nhu nga nsd nfa mrf mki mpa mta mla msl mco mhe mso msi msh mce mca mwo mnu mte nba npl nen nnu nwr mwa mke mma mth mtr nra nik), (mrf, .inl (cI, 8, .inl q_54))]) hP hD rfl
        clear hP hD
        obtain ⟨hP, hD⟩ := h9R
        obtain rfl := hr_52
        exact W.iret (v := (-11)) hx hb hr (fun t ht hW => ⟨⟨(-11), q_54, rfl, trivial, zRet ht hP hD [6, 7, 0, 1, 2, 3, 4, 5] (by decide) rfl⟩, hS.F ht⟩) hS.2.2 dX8_judge_56
    · exact absurd c_50 (by decide)
  · refine lv_istore_n (lv' := [(3, .int 0), (0, .ref m0), (1, .int s_), (2, .int n)]) hx hb dX8_judge_5 rfl hl (by decide) rfl (fun ls hl => ?_)
    refine lv_iload_n hx hb dX8_judge_6 rfl (lv_at hl 0 rfl) ?_
    refine lv_if_ne (tgt := 47) hx hb dX8_judge_7 (by decide) (fun c_55 => ?_) (fun c_55 => ?_)
    · exact absurd c_55 (by decide)
    · refine lv_iload_n hx hb dX8_judge_10 rfl (lv_at hl 3 rfl) ?_
      refine lv_if_ge (tgt := 19) hx hb dX8_judge_11 (by decide) (fun c_56 => ?_) (fun c_56 => ?_)
      · have fc_56 : 0 ≤ n.toInt := zf_le c_56 (by decide) rfl
        refine lv_iload_n hx hb dX8_judge_19 rfl (lv_at hl 3 rfl) ?_
        refine lv_aload_n hx hb dX8_judge_20 rfl (lv_at hl 1 rfl) ?_
        refine va_get (D := D) (ci := 8) (v := .ref msi) (C := RX8) (T := TX8) (N := 38) hx hb hts hi_X8_judge_8 hown hK hP 0 rfl rfl 19 (by decide) (hts (.fieldLink RX8 53 "TheLiningsInItModel" "size" "[I") (List.mem_of_getElem? (i := 1) rfl)) (fun _ h9 => h9) rfl dX8_judge_21 ?_
        refine lv_iload_n hx hb dX8_judge_24 rfl (lv_at hl 2 rfl) ?_
        refine va_iald hx hb hK hP 3 0 rfl rfl (zf_in (by omega) (by omega)) dX8_judge_25 ?_
        refine lv_topi (fun x_57 ex_57 => ?_)
        have bx_57 : 0 ≤ x_57.toInt ∧ x_57.toInt ≤ 160 := by rw [ex_57]; exact hp_gsi _
        refine lv_icmp_le (tgt := 34) hx hb dX8_judge_26 (by decide) (fun c_58 => ?_) (fun c_58 => ?_)
        · have fc_58 : n.toInt ≤ x_57.toInt := zf_le c_58 rfl rfl
          refine lv_iload_n hx hb dX8_judge_34 rfl (lv_at hl 3 rfl) ?_
          refine lv_bipush (v := 20) hx hb dX8_judge_35 (by decide) ?_
          refine lv_icmp_le (tgt := 45) hx hb dX8_judge_37 (by decide) (fun c_59 => ?_) (fun c_59 => ?_)
          · have fc_59 : n.toInt ≤ 20 := zf_le c_59 rfl (by decide)
            refine lv_iconst (v := 0) hx hb dX8_judge_45 (by decide) ?_
            refine lv_istore_n (lv' := [(3, .int 0), (0, .ref m0), (1, .int s_), (2, .int n)]) hx hb dX8_judge_46 rfl hl (by decide) rfl (fun ls hl => ?_)
            refine lv_iload_n hx hb dX8_judge_47 rfl (lv_at hl 0 rfl) ?_
            refine lv_if_eq (tgt := 57) hx hb dX8_judge_48 (by decide) (fun c_60 => ?_) (fun c_60 => ?_)
            · refine lv_aload_n hx hb dX8_judge_57 rfl (lv_at hl 1 rfl) ?_
              refine va_get (D := D) (ci := 8) (v := .int nde) (C := RX8) (T := TX8) (N := 38) hx hb hts hi_X8_judge_8 hown hK hP 0 rfl rfl 3 (by decide) (hts (.fieldLink RX8 115 "TheLiningsInItModel" "depth" "I") (List.mem_of_getElem? (i := 2) rfl)) (fun _ h9 => h9) rfl dX8_judge_58 ?_
              refine lv_istore (lv' := [(4, .int nde), (3, .int 0), (0, .ref m0), (1, .int s_), (2, .int n)]) hx hb dX8_judge_61 hl (by decide) rfl (fun ls hl => ?_)
              refine lv_aload_n hx hb dX8_judge_63 rfl (lv_at hl 2 rfl) ?_
              refine va_get (D := D) (ci := 8) (v := .int nse) (C := RX8) (T := TX8) (N := 38) hx hb hts hi_X8_judge_8 hown hK hP 0 rfl rfl 5 (by decide) (hts (.fieldLink RX8 13 "TheLiningsInItModel" "seconds" "I") (List.mem_of_getElem? (i := 3) rfl)) (fun _ h9 => h9) rfl dX8_judge_64 ?_
              refine lv_istore (lv' := [(5, .int nse), (4, .int nde), (3, .int 0), (0, .ref m0), (1, .int s_), (2, .int n)]) hx hb dX8_judge_67 hl (by decide) rfl (fun ls hl => ?_)
              exact hcut69 H locs ls  hP hD hS (lv_sub hl [3, 4, 5, 1, 0] rfl) (by first | omega | assumption | (simp; done) | (simp; omega))
            · exact absurd c_60 (by decide)
          · have fc_59 : 20 < n.toInt := zf_nle c_59 rfl (by decide)
            refine lv_bipush (v := (-6)) hx hb dX8_judge_40 (by decide) ?_
            refine lv_goto (tgt := 46) hx hb dX8_judge_42 (by decide) ?_
            refine lv_istore_n (lv' := [(3, .int (-6)), (0, .ref m0), (1, .int s_), (2, .int n)]) hx hb dX8_judge_46 rfl hl (by decide) rfl (fun ls hl => ?_)
            refine lv_iload_n hx hb dX8_judge_47 rfl (lv_at hl 0 rfl) ?_
            refine lv_if_eq (tgt := 57) hx hb dX8_judge_48 (by decide) (fun c_61 => ?_) (fun c_61 => ?_)
            · exact absurd c_61 (by decide)
            · refine lv_aload_n hx hb dX8_judge_51 rfl (lv_at hl 1 rfl) ?_
              refine lv_iload_n hx hb dX8_judge_52 rfl (lv_at hl 0 rfl) ?_
              skip
              refine zw_V (As := [.int (-6)]) (rest := []) (wr := [(mhe, .inl (cI, 8, .inl ghe)), (msi, .inl (cI, 8, .inl gsi)), (mce, .inl (cJ, 1280, .inr (.inl gce))), (mki, .inl (cI, 8, .inl gki)), (mpa, .inl (cI, 8, .inl gpa)), (mta, .inl (cI, 8, .inl gta))]) ⟨hx, hb, hml, hown, hts⟩ (c_M_noTen_6 l D cI cJ cZ cP cS po m0 mrf mki mpa mta mla msl mco mhe mso msi msh mce mca mwo mnu mte mwa mke mma mth mtr (npu) (nte) (nat_) (nde) (nto) (nse) (nhu) (nga) (nsd) (nfa) (nba) (npl) (nen) (nnu) (nwr) (nra) (nik) grf hy0 hy1 hy2 hy3 hy4 hy5 hy6 hy7 hy8 hy9 hy10 hy11 hy12 hy13 H.size) (cwV 1 hts gX8_judge_X8_noTen rfl rfl rfl ⟨rfl, dh_X8_noTen⟩ ⟨Nat.le_of_ble_eq_true rfl, Nat.le_of_ble_eq_true rfl⟩) hK hN (hZ.kept hS) hP hD hS hA [0, 1] [2, 3, 4, 5, 6, 7] rfl rfl (by decide) (by decide) (by decide) (va_recv (q := (RX8, TX8, 38)) hK hP (ci := 8) (q0 := 0) rfl rfl) rfl hl.1 rfl (Nat.le_of_ble_eq_true rfl) dX8_judge_53 ⟨Nat.le_of_ble_eq_true rfl, Nat.le_of_ble_eq_true rfl⟩ (fun r_62 u_63 H locs hr_62 hP hD hS => ?_)
              obtain ⟨q_64, rfl⟩ : ∃ z, z = u_63 := ⟨_, rfl⟩
              have h9R := zRe (ws' := [(mhe, .inl (cI, 8, .inl ghe)), (msi, .inl (cI, 8, .inl gsi)), (mce, .inl (cJ, 1280, .inr (.inl gce))), (mki, .inl (cI, 8, .inl gki)), (mpa, .inl (cI, 8, .inl gpa)), (mta, .inl (cI, 8, .inl gta)), (zMO m0 npu nte nat_ nde nto nse nhu nga nsd nfa mrf mki mpa mta mla msl mco mhe mso msi msh mce mca mwo mnu mte nba npl nen nnu nwr mwa mke mma mth mtr nra nik), (mrf, .inl (cI, 8, .inl q_64))]) hP hD rfl
              clear hP hD
              obtain ⟨hP, hD⟩ := h9R
              obtain rfl := hr_62
              exact W.iret (v := (-16)) hx hb hr (fun t ht hW => ⟨⟨(-16), q_64, rfl, trivial, zRet ht hP hD [6, 7, 0, 1, 2, 3, 4, 5] (by decide) rfl⟩, hS.F ht⟩) hS.2.2 dX8_judge_56
        · have fc_58 : x_57.toInt < n.toInt := zf_nle c_58 rfl rfl
          refine lv_bipush (v := (-5)) hx hb dX8_judge_29 (by decide) ?_
          refine lv_goto (tgt := 46) hx hb dX8_judge_31 (by decide) ?_
          refine lv_istore_n (lv' := [(3, .int (-5)), (0, .ref m0), (1, .int s_), (2, .int n)]) hx hb dX8_judge_46 rfl hl (by decide) rfl (fun ls hl => ?_)
          refine lv_iload_n hx hb dX8_judge_47 rfl (lv_at hl 0 rfl) ?_
          refine lv_if_eq (tgt := 57) hx hb dX8_judge_48 (by decide) (fun c_65 => ?_) (fun c_65 => ?_)
          · exact absurd c_65 (by decide)
          · refine lv_aload_n hx hb dX8_judge_51 rfl (lv_at hl 1 rfl) ?_
            refine lv_iload_n hx hb dX8_judge_52 rfl (lv_at hl 0 rfl) ?_
            skip
            refine zw_V (As := [.int (-5)]) (rest := []) (wr := [(mhe, .inl (cI, 8, .inl ghe)), (msi, .inl (cI, 8, .inl gsi)), (mce, .inl (cJ, 1280, .inr (.inl gce))), (mki, .inl (cI, 8, .inl gki)), (mpa, .inl (cI, 8, .inl gpa)), (mta, .inl (cI, 8, .inl gta))]) ⟨hx, hb, hml, hown, hts⟩ (c_M_noTen_5 l D cI cJ cZ cP cS po m0 mrf mki mpa mta mla msl mco mhe mso msi msh mce mca mwo mnu mte mwa mke mma mth mtr (npu) (nte) (nat_) (nde) (nto) (nse) (nhu) (nga) (nsd) (nfa) (nba) (npl) (nen) (nnu) (nwr) (nra) (nik) grf hy0 hy1 hy2 hy3 hy4 hy5 hy6 hy7 hy8 hy9 hy10 hy11 hy12 hy13 H.size) (cwV 1 hts gX8_judge_X8_noTen rfl rfl rfl ⟨rfl, dh_X8_noTen⟩ ⟨Nat.le_of_ble_eq_true rfl, Nat.le_of_ble_eq_true rfl⟩) hK hN (hZ.kept hS) hP hD hS hA [0, 1] [2, 3, 4, 5, 6, 7] rfl rfl (by decide) (by decide) (by decide) (va_recv (q := (RX8, TX8, 38)) hK hP (ci := 8) (q0 := 0) rfl rfl) rfl hl.1 rfl (Nat.le_of_ble_eq_true rfl) dX8_judge_53 ⟨Nat.le_of_ble_eq_true rfl, Nat.le_of_ble_eq_true rfl⟩ (fun r_66 u_67 H locs hr_66 hP hD hS => ?_)
            obtain ⟨q_68, rfl⟩ : ∃ z, z = u_67 := ⟨_, rfl⟩
            have h9R := zRe (ws' := [(mhe, .inl (cI, 8, .inl ghe)), (msi, .inl (cI, 8, .inl gsi)), (mce, .inl (cJ, 1280, .inr (.inl gce))), (mki, .inl (cI, 8, .inl gki)), (mpa, .inl (cI, 8, .inl gpa)), (mta, .inl (cI, 8, .inl gta)), (zMO m0 npu nte nat_ nde nto nse nhu nga nsd nfa mrf mki mpa mta mla msl mco mhe mso msi msh mce mca mwo mnu mte nba npl nen nnu nwr mwa mke mma mth mtr nra nik), (mrf, .inl (cI, 8, .inl q_68))]) hP hD rfl
            clear hP hD
            obtain ⟨hP, hD⟩ := h9R
            obtain rfl := hr_66
            exact W.iret (v := (-15)) hx hb hr (fun t ht hW => ⟨⟨(-15), q_68, rfl, trivial, zRet ht hP hD [6, 7, 0, 1, 2, 3, 4, 5] (by decide) rfl⟩, hS.F ht⟩) hS.2.2 dX8_judge_56
      · have fc_56 : n.toInt < 0 := zf_nle c_56 (by decide) rfl
        refine lv_bipush (v := (-4)) hx hb dX8_judge_14 (by decide) ?_
        refine lv_goto (tgt := 46) hx hb dX8_judge_16 (by decide) ?_
        refine lv_istore_n (lv' := [(3, .int (-4)), (0, .ref m0), (1, .int s_), (2, .int n)]) hx hb dX8_judge_46 rfl hl (by decide) rfl (fun ls hl => ?_)
        refine lv_iload_n hx hb dX8_judge_47 rfl (lv_at hl 0 rfl) ?_
        refine lv_if_eq (tgt := 57) hx hb dX8_judge_48 (by decide) (fun c_69 => ?_) (fun c_69 => ?_)
        · exact absurd c_69 (by decide)
        · refine lv_aload_n hx hb dX8_judge_51 rfl (lv_at hl 1 rfl) ?_
          refine lv_iload_n hx hb dX8_judge_52 rfl (lv_at hl 0 rfl) ?_
          skip
          refine zw_V (As := [.int (-4)]) (rest := []) (wr := [(mhe, .inl (cI, 8, .inl ghe)), (msi, .inl (cI, 8, .inl gsi)), (mce, .inl (cJ, 1280, .inr (.inl gce))), (mki, .inl (cI, 8, .inl gki)), (mpa, .inl (cI, 8, .inl gpa)), (mta, .inl (cI, 8, .inl gta))]) ⟨hx, hb, hml, hown, hts⟩ (c_M_noTen_4 l D cI cJ cZ cP cS po m0 mrf mki mpa mta mla msl mco mhe mso msi msh mce mca mwo mnu mte mwa mke mma mth mtr (npu) (nte) (nat_) (nde) (nto) (nse) (nhu) (nga) (nsd) (nfa) (nba) (npl) (nen) (nnu) (nwr) (nra) (nik) grf hy0 hy1 hy2 hy3 hy4 hy5 hy6 hy7 hy8 hy9 hy10 hy11 hy12 hy13 H.size) (cwV 1 hts gX8_judge_X8_noTen rfl rfl rfl ⟨rfl, dh_X8_noTen⟩ ⟨Nat.le_of_ble_eq_true rfl, Nat.le_of_ble_eq_true rfl⟩) hK hN (hZ.kept hS) hP hD hS hA [0, 1] [2, 3, 4, 5, 6, 7] rfl rfl (by decide) (by decide) (by decide) (va_recv (q := (RX8, TX8, 38)) hK hP (ci := 8) (q0 := 0) rfl rfl) rfl hl.1 rfl (Nat.le_of_ble_eq_true rfl) dX8_judge_53 ⟨Nat.le_of_ble_eq_true rfl, Nat.le_of_ble_eq_true rfl⟩ (fun r_70 u_71 H locs hr_70 hP hD hS => ?_)
          obtain ⟨q_72, rfl⟩ : ∃ z, z = u_71 := ⟨_, rfl⟩
          have h9R := zRe (ws' := [(mhe, .inl (cI, 8, .inl ghe)), (msi, .inl (cI, 8, .inl gsi)), (mce, .inl (cJ, 1280, .inr (.inl gce))), (mki, .inl (cI, 8, .inl gki)), (mpa, .inl (cI, 8, .inl gpa)), (mta, .inl (cI, 8, .inl gta)), (zMO m0 npu nte nat_ nde nto nse nhu nga nsd nfa mrf mki mpa mta mla msl mco mhe mso msi msh mce mca mwo mnu mte nba npl nen nnu nwr mwa mke mma mth mtr nra nik), (mrf, .inl (cI, 8, .inl q_72))]) hP hD rfl
          clear hP hD
          obtain ⟨hP, hD⟩ := h9R
          obtain rfl := hr_70
          exact W.iret (v := (-14)) hx hb hr (fun t ht hW => ⟨⟨(-14), q_72, rfl, trivial, zRet ht hP hD [6, 7, 0, 1, 2, 3, 4, 5] (by decide) rfl⟩, hS.F ht⟩) hS.2.2 dX8_judge_56
  · refine lv_istore_n (lv' := [(3, .int (-3)), (0, .ref m0), (1, .int s_), (2, .int n)]) hx hb dX8_judge_5 rfl hl (by decide) rfl (fun ls hl => ?_)
    refine lv_iload_n hx hb dX8_judge_6 rfl (lv_at hl 0 rfl) ?_
    refine lv_if_ne (tgt := 47) hx hb dX8_judge_7 (by decide) (fun c_73 => ?_) (fun c_73 => ?_)
    · refine lv_iload_n hx hb dX8_judge_47 rfl (lv_at hl 0 rfl) ?_
      refine lv_if_eq (tgt := 57) hx hb dX8_judge_48 (by decide) (fun c_74 => ?_) (fun c_74 => ?_)
      · exact absurd c_74 (by decide)
      · refine lv_aload_n hx hb dX8_judge_51 rfl (lv_at hl 1 rfl) ?_
        refine lv_iload_n hx hb dX8_judge_52 rfl (lv_at hl 0 rfl) ?_
        skip
        refine zw_V (As := [.int (-3)]) (rest := []) (wr := [(mhe, .inl (cI, 8, .inl ghe)), (msi, .inl (cI, 8, .inl gsi)), (mce, .inl (cJ, 1280, .inr (.inl gce))), (mki, .inl (cI, 8, .inl gki)), (mpa, .inl (cI, 8, .inl gpa)), (mta, .inl (cI, 8, .inl gta))]) ⟨hx, hb, hml, hown, hts⟩ (c_M_noTen_3 l D cI cJ cZ cP cS po m0 mrf mki mpa mta mla msl mco mhe mso msi msh mce mca mwo mnu mte mwa mke mma mth mtr (npu) (nte) (nat_) (nde) (nto) (nse) (nhu) (nga) (nsd) (nfa) (nba) (npl) (nen) (nnu) (nwr) (nra) (nik) grf hy0 hy1 hy2 hy3 hy4 hy5 hy6 hy7 hy8 hy9 hy10 hy11 hy12 hy13 H.size) (cwV 1 hts gX8_judge_X8_noTen rfl rfl rfl ⟨rfl, dh_X8_noTen⟩ ⟨Nat.le_of_ble_eq_true rfl, Nat.le_of_ble_eq_true rfl⟩) hK hN (hZ.kept hS) hP hD hS hA [0, 1] [2, 3, 4, 5, 6, 7] rfl rfl (by decide) (by decide) (by decide) (va_recv (q := (RX8, TX8, 38)) hK hP (ci := 8) (q0 := 0) rfl rfl) rfl hl.1 rfl (Nat.le_of_ble_eq_true rfl) dX8_judge_53 ⟨Nat.le_of_ble_eq_true rfl, Nat.le_of_ble_eq_true rfl⟩ (fun r_75 u_76 H locs hr_75 hP hD hS => ?_)
        obtain ⟨q_77, rfl⟩ : ∃ z, z = u_76 := ⟨_, rfl⟩
        have h9R := zRe (ws' := [(mhe, .inl (cI, 8, .inl ghe)), (msi, .inl (cI, 8, .inl gsi)), (mce, .inl (cJ, 1280, .inr (.inl gce))), (mki, .inl (cI, 8, .inl gki)), (mpa, .inl (cI, 8, .inl gpa)), (mta, .inl (cI, 8, .inl gta)), (zMO m0 npu nte nat_ nde nto nse nhu nga nsd nfa mrf mki mpa mta mla msl mco mhe mso msi msh mce mca mwo mnu mte nba npl nen nnu nwr mwa mke mma mth mtr nra nik), (mrf, .inl (cI, 8, .inl q_77))]) hP hD rfl
        clear hP hD
        obtain ⟨hP, hD⟩ := h9R
        obtain rfl := hr_75
        exact W.iret (v := (-13)) hx hb hr (fun t ht hW => ⟨⟨(-13), q_77, rfl, trivial, zRet ht hP hD [6, 7, 0, 1, 2, 3, 4, 5] (by decide) rfl⟩, hS.F ht⟩) hS.2.2 dX8_judge_56
    · exact absurd c_73 (by decide)
  · refine lv_istore_n (lv' := [(3, .int (-2)), (0, .ref m0), (1, .int s_), (2, .int n)]) hx hb dX8_judge_5 rfl hl (by decide) rfl (fun ls hl => ?_)
    refine lv_iload_n hx hb dX8_judge_6 rfl (lv_at hl 0 rfl) ?_
    refine lv_if_ne (tgt := 47) hx hb dX8_judge_7 (by decide) (fun c_78 => ?_) (fun c_78 => ?_)
    · refine lv_iload_n hx hb dX8_judge_47 rfl (lv_at hl 0 rfl) ?_
      refine lv_if_eq (tgt := 57) hx hb dX8_judge_48 (by decide) (fun c_79 => ?_) (fun c_79 => ?_)
      · exact absurd c_79 (by decide)
      · refine lv_aload_n hx hb dX8_judge_51 rfl (lv_at hl 1 rfl) ?_
        refine lv_iload_n hx hb dX8_judge_52 rfl (lv_at hl 0 rfl) ?_
        skip
        refine zw_V (As := [.int (-2)]) (rest := []) (wr := [(mhe, .inl (cI, 8, .inl ghe)), (msi, .inl (cI, 8, .inl gsi)), (mce, .inl (cJ, 1280, .inr (.inl gce))), (mki, .inl (cI, 8, .inl gki)), (mpa, .inl (cI, 8, .inl gpa)), (mta, .inl (cI, 8, .inl gta))]) ⟨hx, hb, hml, hown, hts⟩ (c_M_noTen_2 l D cI cJ cZ cP cS po m0 mrf mki mpa mta mla msl mco mhe mso msi msh mce mca mwo mnu mte mwa mke mma mth mtr (npu) (nte) (nat_) (nde) (nto) (nse) (nhu) (nga) (nsd) (nfa) (nba) (npl) (nen) (nnu) (nwr) (nra) (nik) grf hy0 hy1 hy2 hy3 hy4 hy5 hy6 hy7 hy8 hy9 hy10 hy11 hy12 hy13 H.size) (cwV 1 hts gX8_judge_X8_noTen rfl rfl rfl ⟨rfl, dh_X8_noTen⟩ ⟨Nat.le_of_ble_eq_true rfl, Nat.le_of_ble_eq_true rfl⟩) hK hN (hZ.kept hS) hP hD hS hA [0, 1] [2, 3, 4, 5, 6, 7] rfl rfl (by decide) (by decide) (by decide) (va_recv (q := (RX8, TX8, 38)) hK hP (ci := 8) (q0 := 0) rfl rfl) rfl hl.1 rfl (Nat.le_of_ble_eq_true rfl) dX8_judge_53 ⟨Nat.le_of_ble_eq_true rfl, Nat.le_of_ble_eq_true rfl⟩ (fun r_80 u_81 H locs hr_80 hP hD hS => ?_)
        obtain ⟨q_82, rfl⟩ : ∃ z, z = u_81 := ⟨_, rfl⟩
        have h9R := zRe (ws' := [(mhe, .inl (cI, 8, .inl ghe)), (msi, .inl (cI, 8, .inl gsi)), (mce, .inl (cJ, 1280, .inr (.inl gce))), (mki, .inl (cI, 8, .inl gki)), (mpa, .inl (cI, 8, .inl gpa)), (mta, .inl (cI, 8, .inl gta)), (zMO m0 npu nte nat_ nde nto nse nhu nga nsd nfa mrf mki mpa mta mla msl mco mhe mso msi msh mce mca mwo mnu mte nba npl nen nnu nwr mwa mke mma mth mtr nra nik), (mrf, .inl (cI, 8, .inl q_82))]) hP hD rfl
        clear hP hD
        obtain ⟨hP, hD⟩ := h9R
        obtain rfl := hr_80
        exact W.iret (v := (-12)) hx hb hr (fun t ht hW => ⟨⟨(-12), q_82, rfl, trivial, zRet ht hP hD [6, 7, 0, 1, 2, 3, 4, 5] (by decide) rfl⟩, hS.F ht⟩) hS.2.2 dX8_judge_56
    · exact absurd c_78 (by decide)
set_option maxHeartbeats 4000000 in
set_option maxRecDepth 100000 in
theorem c_M_mayMake (l : Launch) (D : va_G) (cI cJ cZ cP cS : ClassId) (po : zPool) (m0 mrf mki mpa mta mla msl mco mhe mso msi msh mce mca mwo mnu mte mwa mke mma mth mtr : Nat) (npu nte nat_ nde nto nse nhu nga nsd nfa nba npl nen nnu nwr nra nik : Int32) (gki gpa : Nat → Int32) (p_ d to : Int32) (hy0 : 0 ≤ npu.toInt) (hy1 : npu.toInt ≤ 8) (hy2 : 4 ≤ nte.toInt) (hy3 : nte.toInt ≤ 40) (hy4 : 0 ≤ nat_.toInt) (hy5 : nat_.toInt ≤ 40) (hy6 : 0 ≤ nde.toInt) (hy7 : nde.toInt ≤ 24) (hy8 : 0 ≤ nhu.toInt) (hy9 : nhu.toInt ≤ 9) (hy10 : 0 ≤ nra.toInt) (hy11 : nra.toInt ≤ 2000) (hy12 : 0 ≤ nik.toInt) (hy13 : nik.toInt ≤ 1) (hy14 : 0 ≤ p_.toInt) (hy15 : p_.toInt ≤ 7) (hp_gki : zRg gki (0) 6) (hp_gpa : zRg gpa (0) 9) : Met l yX8_mayMake wsX8_mayMake ({ frames := 2, cells := 0, slots := 0, locals := 45 }) (va_Pc [.ref m0, .int p_, .int d, .int to] (zR D (zKT cI cJ cZ cP cS) po [(zMO m0 npu nte nat_ nde nto nse nhu nga nsd nfa mrf mki mpa mta mla msl mco mhe mso msi msh mce mca mwo mnu mte nba npl nen nnu nwr mwa mke mma mth mtr nra nik), (mki, .inl (cI, 8, .inl gki)), (mpa, .inl (cI, 8, .inl gpa))])) (vp_Si (fun r => 0 ≤ r.toInt ∧ r.toInt ≤ 1)) 0 0 (fun _ => False) := by
  refine Met.ofW (cc := cX8_mayMake) (maxL := 5) (ret := (some .boolean)) (by decide) rfl ?_
  intro p e s m args below meth c s₁ B hml hv
  obtain ⟨rfl, hP, hK, hN, hZ⟩ := hv
  have hx := B.exec
  have hb := B.bytes
  have hr := B.returns
  have hts := atoms_spec (ws := wsX8_mayMake) B.pre
  have hown : s.vm.findClass RX8 = some m.cls := findClass_of_methodNamed B.named
  have hlocks := B.notSynchronized
  have hl := lv_entry ([.ref m0, .int p_, .int d, .int to]) (n := 5) (Nat.le_of_ble_eq_true rfl)
  rw [lg_entry_eq]
  generalize (lg_sl ([.ref m0, .int p_, .int d, .int to]) ++ List.replicate (5 - (lg_sl ([.ref m0, .int p_, .int d, .int to])).length) Slot.unset).toArray = ls at hl ⊢
  replace hl : lv_has ls 5 [(0, .ref m0), (1, .int p_), (2, .int d), (3, .int to)] := hl
  refine lv_iload_n hx hb dX8_mayMake_0 rfl (lv_at hl 2 rfl) ?_
  refine lv_if_ne (tgt := 6) hx hb dX8_mayMake_1 (by decide) (fun c_1 => ?_) (fun c_1 => ?_)
  · have fc_1 : d.toInt ≠ 0 := zf_ne c_1 rfl (by decide)
    refine lv_aload_n hx hb dX8_mayMake_6 rfl (lv_at hl 0 rfl) ?_
    refine lv_iload_n hx hb dX8_mayMake_7 rfl (lv_at hl 1 rfl) ?_
    refine lv_iload_n hx hb dX8_mayMake_8 rfl (lv_at hl 2 rfl) ?_
    refine zc_V (As := [.int p_, .int d]) (rest := []) ⟨hx, hb, hml, hown, hts⟩ (c_M_ways l D cI cJ cZ cP cS po m0 mrf mki mpa mta mla msl mco mhe mso msi msh mce mca mwo mnu mte mwa mke mma mth mtr (npu) (nte) (nat_) (nde) (nto) (nse) (nhu) (nga) (nsd) (nfa) (nba) (npl) (nen) (nnu) (nwr) (nra) (nik) gki gpa (p_) (d) hy0 hy1 hy2 hy3 hy4 hy5 hy6 hy7 hy8 hy9 hy10 hy11 hy12 hy13 hy14 hy15 hp_gki hp_gpa) (cwV 2 hts gX8_mayMake_X8_ways rfl rfl rfl ⟨rfl, dh_X8_ways⟩ ⟨Nat.le_of_ble_eq_true rfl, Nat.le_of_ble_eq_true rfl⟩) hK hN hZ hP (hP.sub [0, 1, 2] rfl) (va_recv (q := (RX8, TX8, 38)) hK hP (ci := 8) (q0 := 0) rfl rfl) rfl hl.1 rfl (Nat.le_of_ble_eq_true rfl) dX8_mayMake_9 ⟨Nat.le_of_ble_eq_true rfl, Nat.le_of_ble_eq_true rfl⟩ (fun r_2 hr_2 => ?_)
    obtain ⟨g_3, g_4⟩ := hr_2
    refine lv_istore (lv' := [(4, .int r_2), (0, .ref m0), (1, .int p_), (2, .int d), (3, .int to)]) hx hb dX8_mayMake_12 hl (by decide) rfl (fun ls hl => ?_)
    refine lv_iload hx hb dX8_mayMake_14 (lv_at hl 0 rfl) ?_
    refine lv_if_le (tgt := 30) hx hb dX8_mayMake_16 (by decide) (fun c_5 => ?_) (fun c_5 => ?_)
    · have fc_5 : r_2.toInt ≤ 0 := zf_le c_5 rfl (by decide)
      refine lv_iload hx hb dX8_mayMake_30 (lv_at hl 0 rfl) ?_
      refine lv_bipush (v := 12) hx hb dX8_mayMake_32 (by decide) ?_
      refine lv_icmp_ge (tgt := 52) hx hb dX8_mayMake_34 (by decide) (fun c_6 => ?_) (fun c_6 => ?_)
      · exfalso; have fc_6 : 12 ≤ r_2.toInt := zf_le c_6 (by decide) rfl; omega
      · have fc_6 : r_2.toInt < 12 := zf_nle c_6 (by decide) rfl
        refine lv_aload_n hx hb dX8_mayMake_37 rfl (lv_at hl 1 rfl) ?_
        refine lv_iload_n hx hb dX8_mayMake_38 rfl (lv_at hl 2 rfl) ?_
        refine lv_iload_n hx hb dX8_mayMake_39 rfl (lv_at hl 3 rfl) ?_
        refine lv_iconst (v := 0) hx hb dX8_mayMake_40 (by decide) ?_
        refine zc_V (As := [.int p_, .int d, .int 0]) (rest := []) ⟨hx, hb, hml, hown, hts⟩ (c_M_deep_any l D cI cJ cZ cP cS po m0 mrf mki mpa mta mla msl mco mhe mso msi msh mce mca mwo mnu mte mwa mke mma mth mtr (npu) (nte) (nat_) (nde) (nto) (nse) (nhu) (nga) (nsd) (nfa) (nba) (npl) (nen) (nnu) (nwr) (nra) (nik) gki gpa (p_) (d) (0) hy0 hy1 hy2 hy3 hy4 hy5 hy6 hy7 hy8 hy9 hy10 hy11 hy12 hy13 hy14 hy15 hp_gki hp_gpa) (cwV 3 hts gX8_mayMake_X8_deep rfl rfl rfl ⟨rfl, dh_X8_deep⟩ ⟨Nat.le_of_ble_eq_true rfl, Nat.le_of_ble_eq_true rfl⟩) hK hN hZ hP (hP.sub [0, 1, 2] rfl) (va_recv (q := (RX8, TX8, 38)) hK hP (ci := 8) (q0 := 0) rfl rfl) rfl hl.1 rfl (Nat.le_of_ble_eq_true rfl) dX8_mayMake_41 ⟨Nat.le_of_ble_eq_true rfl, Nat.le_of_ble_eq_true rfl⟩ (fun r_7 hr_7 => ?_)
        refine lv_iload_n hx hb dX8_mayMake_44 rfl (lv_at hl 4 rfl) ?_
        refine lv_icmp_ne (tgt := 52) hx hb dX8_mayMake_45 (by decide) (fun c_8 => ?_) (fun c_8 => ?_)
        · have fc_8 : r_7.toInt ≠ to.toInt := zf_ne c_8 rfl rfl
          refine lv_iconst (v := 0) hx hb dX8_mayMake_52 (by decide) ?_
          exact W.zret (v := 0) hx hb hr (by decide) (fun t ht hW => ⟨0, rfl, ⟨by decide, by decide⟩, ht⟩) (fun q hq => by cases hq) dX8_mayMake_53
        · have fc_8 : r_7.toInt = to.toInt := zf_eq c_8 rfl rfl
          refine lv_iconst (v := 1) hx hb dX8_mayMake_48 (by decide) ?_
          refine lv_goto (tgt := 53) hx hb dX8_mayMake_49 (by decide) ?_
          exact W.zret (v := 1) hx hb hr (by decide) (fun t ht hW => ⟨1, rfl, ⟨by decide, by decide⟩, ht⟩) (fun q hq => by cases hq) dX8_mayMake_53
    · have fc_5 : 0 < r_2.toInt := zf_nle c_5 rfl (by decide)
      refine lv_aload_n hx hb dX8_mayMake_19 rfl (lv_at hl 1 rfl) ?_
      refine lv_iload_n hx hb dX8_mayMake_20 rfl (lv_at hl 2 rfl) ?_
      refine lv_iload_n hx hb dX8_mayMake_21 rfl (lv_at hl 3 rfl) ?_
      refine lv_iconst (v := 1) hx hb dX8_mayMake_22 (by decide) ?_
      refine zc_V (As := [.int p_, .int d, .int 1]) (rest := []) ⟨hx, hb, hml, hown, hts⟩ (c_M_deep_any l D cI cJ cZ cP cS po m0 mrf mki mpa mta mla msl mco mhe mso msi msh mce mca mwo mnu mte mwa mke mma mth mtr (npu) (nte) (nat_) (nde) (nto) (nse) (nhu) (nga) (nsd) (nfa) (nba) (npl) (nen) (nnu) (nwr) (nra) (nik) gki gpa (p_) (d) (1) hy0 hy1 hy2 hy3 hy4 hy5 hy6 hy7 hy8 hy9 hy10 hy11 hy12 hy13 hy14 hy15 hp_gki hp_gpa) (cwV 3 hts gX8_mayMake_X8_deep rfl rfl rfl ⟨rfl, dh_X8_deep⟩ ⟨Nat.le_of_ble_eq_true rfl, Nat.le_of_ble_eq_true rfl⟩) hK hN hZ hP (hP.sub [0, 1, 2] rfl) (va_recv (q := (RX8, TX8, 38)) hK hP (ci := 8) (q0 := 0) rfl rfl) rfl hl.1 rfl (Nat.le_of_ble_eq_true rfl) dX8_mayMake_23 ⟨Nat.le_of_ble_eq_true rfl, Nat.le_of_ble_eq_true rfl⟩ (fun r_9 hr_9 => ?_)
      refine lv_iload_n hx hb dX8_mayMake_26 rfl (lv_at hl 4 rfl) ?_
      refine lv_icmp_eq (tgt := 48) hx hb dX8_mayMake_27 (by decide) (fun c_10 => ?_) (fun c_10 => ?_)
      · have fc_10 : r_9.toInt = to.toInt := zf_eq c_10 rfl rfl
        refine lv_iconst (v := 1) hx hb dX8_mayMake_48 (by decide) ?_
        refine lv_goto (tgt := 53) hx hb dX8_mayMake_49 (by decide) ?_
        exact W.zret (v := 1) hx hb hr (by decide) (fun t ht hW => ⟨1, rfl, ⟨by decide, by decide⟩, ht⟩) (fun q hq => by cases hq) dX8_mayMake_53
      · have fc_10 : r_9.toInt ≠ to.toInt := zf_ne c_10 rfl rfl
        refine lv_iload hx hb dX8_mayMake_30 (lv_at hl 0 rfl) ?_
        refine lv_bipush (v := 12) hx hb dX8_mayMake_32 (by decide) ?_
        refine lv_icmp_ge (tgt := 52) hx hb dX8_mayMake_34 (by decide) (fun c_11 => ?_) (fun c_11 => ?_)
        · have fc_11 : 12 ≤ r_2.toInt := zf_le c_11 (by decide) rfl
          refine lv_iconst (v := 0) hx hb dX8_mayMake_52 (by decide) ?_
          exact W.zret (v := 0) hx hb hr (by decide) (fun t ht hW => ⟨0, rfl, ⟨by decide, by decide⟩, ht⟩) (fun q hq => by cases hq) dX8_mayMake_53
        · have fc_11 : r_2.toInt < 12 := zf_nle c_11 (by decide) rfl
          refine lv_aload_n hx hb dX8_mayMake_37 rfl (lv_at hl 1 rfl) ?_
          refine lv_iload_n hx hb dX8_mayMake_38 rfl (lv_at hl 2 rfl) ?_
          refine lv_iload_n hx hb dX8_mayMake_39 rfl (lv_at hl 3 rfl) ?_
          refine lv_iconst (v := 0) hx hb dX8_mayMake_40 (by decide) ?_
          refine zc_V (As := [.int p_, .int d, .int 0]) (rest := []) ⟨hx, hb, hml, hown, hts⟩ (c_M_deep_any l D cI cJ cZ cP cS po m0 mrf mki mpa mta mla msl mco mhe mso msi msh mce mca mwo mnu mte mwa mke mma mth mtr (npu) (nte) (nat_) (nde) (nto) (nse) (nhu) (nga) (nsd) (nfa) (nba) (npl) (nen) (nnu) (nwr) (nra) (nik) gki gpa (p_) (d) (0) hy0 hy1 hy2 hy3 hy4 hy5 hy6 hy7 hy8 hy9 hy10 hy11 hy12 hy13 hy14 hy15 hp_gki hp_gpa) (cwV 3 hts gX8_mayMake_X8_deep rfl rfl rfl ⟨rfl, dh_X8_deep⟩ ⟨Nat.le_of_ble_eq_true rfl, Nat.le_of_ble_eq_true rfl⟩) hK hN hZ hP (hP.sub [0, 1, 2] rfl) (va_recv (q := (RX8, TX8, 38)) hK hP (ci := 8) (q0 := 0) rfl rfl) rfl hl.1 rfl (Nat.le_of_ble_eq_true rfl) dX8_mayMake_41 ⟨Nat.le_of_ble_eq_true rfl, Nat.le_of_ble_eq_true rfl⟩ (fun r_12 hr_12 => ?_)
          refine lv_iload_n hx hb dX8_mayMake_44 rfl (lv_at hl 4 rfl) ?_
          refine lv_icmp_ne (tgt := 52) hx hb dX8_mayMake_45 (by decide) (fun c_13 => ?_) (fun c_13 => ?_)
          · have fc_13 : r_12.toInt ≠ to.toInt := zf_ne c_13 rfl rfl
            refine lv_iconst (v := 0) hx hb dX8_mayMake_52 (by decide) ?_
            exact W.zret (v := 0) hx hb hr (by decide) (fun t ht hW => ⟨0, rfl, ⟨by decide, by decide⟩, ht⟩) (fun q hq => by cases hq) dX8_mayMake_53
          · have fc_13 : r_12.toInt = to.toInt := zf_eq c_13 rfl rfl
            refine lv_iconst (v := 1) hx hb dX8_mayMake_48 (by decide) ?_
            refine lv_goto (tgt := 53) hx hb dX8_mayMake_49 (by decide) ?_
            exact W.zret (v := 1) hx hb hr (by decide) (fun t ht hW => ⟨1, rfl, ⟨by decide, by decide⟩, ht⟩) (fun q hq => by cases hq) dX8_mayMake_53
  · have fc_1 : d.toInt = 0 := zf_eq c_1 rfl (by decide)
    refine lv_iconst (v := 0) hx hb dX8_mayMake_4 (by decide) ?_
    exact W.zret (v := 0) hx hb hr (by decide) (fun t ht hW => ⟨0, rfl, ⟨by decide, by decide⟩, ht⟩) (fun q hq => by cases hq) dX8_mayMake_5
theorem hi_X8_meant_8 : ∀ w ∈ u_ws RX8 TX8 38, w ∈ wsX8_meant := fun w h => (gl_X8_meant_X80 w h).1
set_option maxHeartbeats 4000000 in
set_option maxRecDepth 100000 in
theorem c_M_meant (l : Launch) (D : va_G) (cI cJ cZ cP cS : ClassId) (po : zPool) (m0 mrf mki mpa mta mla msl mco mhe mso msi msh mce mca mwo mnu mte mwa mke mma mth mtr : Nat) (npu nte nat_ nde nto nse nhu nga nsd nfa nba npl nen nnu nwr nra nik : Int32) (grf ghe gsi gki gpa : Nat → Int32) (gce : Nat → Int64) (s_ n i : Int32) (hy0 : 0 ≤ npu.toInt) (hy1 : npu.toInt ≤ 8) (hy2 : 4 ≤ nte.toInt) (hy3 : nte.toInt ≤ 40) (hy4 : 0 ≤ nat_.toInt) (hy5 : nat_.toInt ≤ 40) (hy6 : 0 ≤ nde.toInt) (hy7 : nde.toInt ≤ 24) (hy8 : 0 ≤ nhu.toInt) (hy9 : nhu.toInt ≤ 9) (hy10 : 0 ≤ nra.toInt) (hy11 : nra.toInt ≤ 2000) (hy12 : 0 ≤ nik.toInt) (hy13 : nik.toInt ≤ 1) (hp_ghe : zRg ghe (0) 2) (hp_gsi : zRg gsi (0) 160) (hp_gki : zRg gki (0) 6) (hp_gpa : zRg gpa (0) 9) (hpz : Nat) : Met l yX8_meant wsX8_meant ({ frames := 3, cells := 0, slots := 0, locals := 69 }) (va_Pc [.ref m0, .int s_, .int n, .int i] (zW D (zKT cI cJ cZ cP cS) po [(zMO m0 npu nte nat_ nde nto nse nhu nga nsd nfa mrf mki mpa mta mla msl mco mhe mso msi msh mce mca mwo mnu mte nba npl nen nnu nwr mwa mke mma mth mtr nra nik), (mrf, .inl (cI, 8, .inl grf)), (mhe, .inl (cI, 8, .inl ghe)), (msi, .inl (cI, 8, .inl gsi)), (mce, .inl (cJ, 1280, .inr (.inl gce))), (mki, .inl (cI, 8, .inl gki)), (mpa, .inl (cI, 8, .inl gpa))] hpz)) (va_Qi (fun (r : Int32) (grf2 : (Nat → Int32)) => True) (zB D [(zMO m0 npu nte nat_ nde nto nse nhu nga nsd nfa mrf mki mpa mta mla msl mco mhe mso msi msh mce mca mwo mnu mte nba npl nen nnu nwr mwa mke mma mth mtr nra nik), (mrf, .inl (cI, 8, .inl grf)), (mhe, .inl (cI, 8, .inl ghe)), (msi, .inl (cI, 8, .inl gsi)), (mce, .inl (cJ, 1280, .inr (.inl gce))), (mki, .inl (cI, 8, .inl gki)), (mpa, .inl (cI, 8, .inl gpa))] hpz (fun (grf2 : Nat → Int32) => [(zMO m0 npu nte nat_ nde nto nse nhu nga nsd nfa mrf mki mpa mta mla msl mco mhe mso msi msh mce mca mwo mnu mte nba npl nen nnu nwr mwa mke mma mth mtr nra nik), (mrf, .inl (cI, 8, .inl grf2)), (mhe, .inl (cI, 8, .inl ghe)), (msi, .inl (cI, 8, .inl gsi)), (mce, .inl (cJ, 1280, .inr (.inl gce))), (mki, .inl (cI, 8, .inl gki)), (mpa, .inl (cI, 8, .inl gpa))])) (va_A [(zMO m0 npu nte nat_ nde nto nse nhu nga nsd nfa mrf mki mpa mta mla msl mco mhe mso msi msh mce mca mwo mnu mte nba npl nen nnu nwr mwa mke mma mth mtr nra nik), (mrf, .inl (cI, 8, .inl grf)), (mhe, .inl (cI, 8, .inl ghe)), (msi, .inl (cI, 8, .inl gsi)), (mce, .inl (cJ, 1280, .inr (.inl gce))), (mki, .inl (cI, 8, .inl gki)), (mpa, .inl (cI, 8, .inl gpa))] hpz)) 0 0 (va_A [(zMO m0 npu nte nat_ nde nto nse nhu nga nsd nfa mrf mki mpa mta mla msl mco mhe mso msi msh mce mca mwo mnu mte nba npl nen nnu nwr mwa mke mma mth mtr nra nik), (mrf, .inl (cI, 8, .inl grf)), (mhe, .inl (cI, 8, .inl ghe)), (msi, .inl (cI, 8, .inl gsi)), (mce, .inl (cJ, 1280, .inr (.inl gce))), (mki, .inl (cI, 8, .inl gki)), (mpa, .inl (cI, 8, .inl gpa))] hpz) := by
  refine Met.ofW (cc := cX8_meant) (maxL := 12) (ret := (some .int)) (by decide) rfl ?_
  intro p e s m args below meth c s₁ B hml hv
  obtain ⟨rfl, hsz, hP, hK, hD0, hN, hZ⟩ := hv
  have hx := B.exec
  have hb := B.bytes
  have hr := B.returns
  have hts := atoms_spec (ws := wsX8_meant) B.pre
  have hown : s.vm.findClass RX8 = some m.cls := findClass_of_methodNamed B.named
  have hlocks := B.notSynchronized
  subst hsz
  have hD := hD0.self (sz := s.heap.size)
  have hA := zA_of hD
  have hl := lv_entry ([.ref m0, .int s_, .int n, .int i]) (n := 12) (Nat.le_of_ble_eq_true rfl)
  rw [lg_entry_eq]
  generalize (lg_sl ([.ref m0, .int s_, .int n, .int i]) ++ List.replicate (12 - (lg_sl ([.ref m0, .int s_, .int n, .int i])).length) Slot.unset).toArray = ls at hl ⊢
  replace hl : lv_has ls 12 [(0, .ref m0), (1, .int s_), (2, .int n), (3, .int i)] := hl
  refine zw_begin hP hD (fun H locs hP1 hS => ?_)
  clear hP
  have hP := hP1
  clear hP1
  refine zcut (T := fun K => ∀ (H : Heap) (locs : List Loc) (ls : Array Slot) (hP : va_P D vwCl [(zMO m0 npu nte nat_ nde nto nse nhu nga nsd nfa mrf mki mpa mta mla msl mco mhe mso msi msh mce mca mwo mnu mte nba npl nen nnu nwr mwa mke mma mth mtr nra nik), (mrf, .inl (cI, 8, .inl grf)), (mhe, .inl (cI, 8, .inl ghe)), (msi, .inl (cI, 8, .inl gsi)), (mce, .inl (cJ, 1280, .inr (.inl gce))), (mki, .inl (cI, 8, .inl gki)), (mpa, .inl (cI, 8, .inl gpa))] H) (hD : va_D (va_A [(zMO m0 npu nte nat_ nde nto nse nhu nga nsd nfa mrf mki mpa mta mla msl mco mhe mso msi msh mce mca mwo mnu mte nba npl nen nnu nwr mwa mke mma mth mtr nra nik), (mrf, .inl (cI, 8, .inl grf)), (mhe, .inl (cI, 8, .inl ghe)), (msi, .inl (cI, 8, .inl gsi)), (mce, .inl (cJ, 1280, .inr (.inl gce))), (mki, .inl (cI, 8, .inl gki)), (mpa, .inl (cI, 8, .inl gpa))] s.heap.size) [(zMO m0 npu nte nat_ nde nto nse nhu nga nsd nfa mrf mki mpa mta mla msl mco mhe mso msi msh mce mca mwo mnu mte nba npl nen nnu nwr mwa mke mma mth mtr nra nik), (mrf, .inl (cI, 8, .inl grf)), (mhe, .inl (cI, 8, .inl ghe)), (msi, .inl (cI, 8, .inl gsi)), (mce, .inl (cJ, 1280, .inr (.inl gce))), (mki, .inl (cI, 8, .inl gki)), (mpa, .inl (cI, 8, .inl gpa))]) (hS : va_S (va_A [(zMO m0 npu nte nat_ nde nto nse nhu nga nsd nfa mrf mki mpa mta mla msl mco mhe mso msi msh mce mca mwo mnu mte nba npl nen nnu nwr mwa mke mma mth mtr nra nik), (mrf, .inl (cI, 8, .inl grf)), (mhe, .inl (cI, 8, .inl ghe)), (msi, .inl (cI, 8, .inl gsi)), (mce, .inl (cJ, 1280, .inr (.inl gce))), (mki, .inl (cI, 8, .inl gki)), (mpa, .inl (cI, 8, .inl gpa))] s.heap.size) s.heap H locs) (hl : lv_has ls 12 [(0, .ref m0), (1, .int s_), (2, .int n), (3, .int i)]) (hf132_0 : (0 ≤ s_.toInt ∧ s_.toInt ≤ 7) ∧ 1 ≤ n.toInt ∧ n.toInt ≤ 20), K H locs ls) (pc := 132) ?_ (fun hcut132 => ?_)
  · intro H locs ls hP hD hS hl hf132_0
    refine lv_iconst (v := 1) hx hb dX8_meant_132 (by decide) ?_
    refine lv_istore (lv' := [(5, .int 1), (0, .ref m0), (1, .int s_), (2, .int n), (3, .int i)]) hx hb dX8_meant_133 hl (by decide) rfl (fun ls hl => ?_)
    refine lv_aload_n hx hb dX8_meant_135 rfl (lv_at hl 1 rfl) ?_
    refine va_get (D := D) (ci := 8) (v := .int nde) (C := RX8) (T := TX8) (N := 38) hx hb hts hi_X8_meant_8 hown hK hP 0 rfl rfl 3 (by decide) (hts (.fieldLink RX8 115 "TheLiningsInItModel" "depth" "I") (List.mem_of_getElem? (i := 2) rfl)) (fun _ h9 => h9) rfl dX8_meant_136 ?_
    refine lv_istore (lv' := [(6, .int nde), (5, .int 1), (0, .ref m0), (1, .int s_), (2, .int n), (3, .int i)]) hx hb dX8_meant_139 hl (by decide) rfl (fun ls hl => ?_)
    refine lv_iconst (v := (-1)) hx hb dX8_meant_141 (by decide) ?_
    refine lv_istore (lv' := [(7, .int (-1)), (6, .int nde), (5, .int 1), (0, .ref m0), (1, .int s_), (2, .int n), (3, .int i)]) hx hb dX8_meant_142 hl (by decide) rfl (fun ls hl => ?_)
    refine lv_iconst (v := 0) hx hb dX8_meant_144 (by decide) ?_
    refine lv_istore (lv' := [(8, .int 0), (7, .int (-1)), (6, .int nde), (5, .int 1), (0, .ref m0), (1, .int s_), (2, .int n), (3, .int i)]) hx hb dX8_meant_145 hl (by decide) rfl (fun ls hl => ?_)
    obtain ⟨i_147, hi_147⟩ : ∃ i : Int32, i = 0 := ⟨_, rfl⟩
    replace hl : lv_has ls 12 [(8, .int i_147), (7, .int (-1)), (6, .int nde), (5, .int 1), (0, .ref m0), (1, .int s_), (2, .int n), (3, .int i)] := by rw [hi_147]; exact lv_sub hl [0, 1, 2, 3, 4, 5, 6, 7] rfl
    have h1i_147 : i_147.toInt = 0 := by rw [hi_147]; decide
    obtain ⟨nfu, hni_147⟩ : ∃ nq9 : Nat, n.toInt ≤ i_147.toInt + (nq9 : Int) := ⟨((n.toInt : Int) - 0).toNat, by omega⟩
    have hloi_147 : 0 ≤ i_147.toInt := by omega
    obtain ⟨v_1, hv_1⟩ : ∃ g : Int32, g = 1 := ⟨_, rfl⟩
    obtain ⟨v_2, hv_2⟩ : ∃ g : Int32, g = nde := ⟨_, rfl⟩
    obtain ⟨v_3, hv_3⟩ : ∃ g : Int32, g = (-1) := ⟨_, rfl⟩
    replace hl : lv_has ls 12 [(8, .int i_147), (7, .int v_3), (6, .int v_2), (5, .int v_1), (0, .ref m0), (1, .int s_), (2, .int n), (3, .int i)] := by rw [hv_1, hv_2, hv_3]; exact hl
    clear h1i_147 hi_147 hv_1 hv_2 hv_3
    skip
    revert hni_147
    revert hloi_147
    revert hl
    revert hS
    revert hD
    revert hP
    revert ls
    revert locs
    revert H
    revert v_3
    revert v_2
    revert v_1
    revert i_147
    induction nfu with
    | zero =>
      intro i_147 v_1 v_2 v_3 H locs ls hP hD hS hl hloi_147 hni_147
      have hzi_147 : n.toInt ≤ i_147.toInt := by omega
      refine lv_iload hx hb dX8_meant_147 (lv_at hl 0 rfl) ?_
      refine lv_iload_n hx hb dX8_meant_149 rfl (lv_at hl 6 rfl) ?_
      refine lv_icmp_ge (tgt := 252) hx hb dX8_meant_150 (by decide) (fun c_4 => ?_) (fun c_4 => ?_)
      · have fc_4 : n.toInt ≤ i_147.toInt := zf_le c_4 rfl rfl
        refine lv_iload_n hx hb dX8_meant_252 rfl (lv_at hl 7 rfl) ?_
        refine lv_iconst (v := (-1)) hx hb dX8_meant_253 (by decide) ?_
        refine lv_icmp_ne (tgt := 260) hx hb dX8_meant_254 (by decide) (fun c_5 => ?_) (fun c_5 => ?_)
        · have fc_5 : i.toInt ≠ (-1) := zf_ne c_5 rfl (by decide)
          refine lv_iload hx hb dX8_meant_260 (lv_at hl 3 rfl) ?_
          refine lv_if_ne (tgt := 274) hx hb dX8_meant_262 (by decide) (fun c_6 => ?_) (fun c_6 => ?_)
          · have fc_6 : v_1.toInt ≠ 0 := zf_ne c_6 rfl (by decide)
            refine lv_iload hx hb dX8_meant_274 (lv_at hl 1 rfl) ?_
            exact W.iret (v := v_3) hx hb hr (fun t ht hW => ⟨⟨v_3, grf, rfl, trivial, zRet ht hP hD [0, 1, 2, 3, 4, 5, 6] (by decide) rfl⟩, hS.F ht⟩) hS.2.2 dX8_meant_276
          · have fc_6 : v_1.toInt = 0 := zf_eq c_6 rfl (by decide)
            refine lv_aload_n hx hb dX8_meant_265 rfl (lv_at hl 4 rfl) ?_
            refine lv_bipush (v := (-5)) hx hb dX8_meant_266 (by decide) ?_
            skip
            refine zw_V (As := [.int (-5)]) (rest := []) (wr := [(mhe, .inl (cI, 8, .inl ghe)), (msi, .inl (cI, 8, .inl gsi)), (mce, .inl (cJ, 1280, .inr (.inl gce))), (mki, .inl (cI, 8, .inl gki)), (mpa, .inl (cI, 8, .inl gpa))]) ⟨hx, hb, hml, hown, hts⟩ (c_M_no_5 l D cI cJ cZ cP cS po m0 mrf mki mpa mta mla msl mco mhe mso msi msh mce mca mwo mnu mte mwa mke mma mth mtr (npu) (nte) (nat_) (nde) (nto) (nse) (nhu) (nga) (nsd) (nfa) (nba) (npl) (nen) (nnu) (nwr) (nra) (nik) grf hy0 hy1 hy2 hy3 hy4 hy5 hy6 hy7 hy8 hy9 hy10 hy11 hy12 hy13 H.size) (cwV 1 hts gX8_meant_X8_no rfl rfl rfl ⟨rfl, dh_X8_no⟩ ⟨Nat.le_of_ble_eq_true rfl, Nat.le_of_ble_eq_true rfl⟩) hK hN (hZ.kept hS) hP hD hS hA [0, 1] [2, 3, 4, 5, 6] rfl rfl (by decide) (by decide) (by decide) (va_recv (q := (RX8, TX8, 38)) hK hP (ci := 8) (q0 := 0) rfl rfl) rfl hl.1 rfl (Nat.le_of_ble_eq_true rfl) dX8_meant_268 ⟨Nat.le_of_ble_eq_true rfl, Nat.le_of_ble_eq_true rfl⟩ (fun r_7 u_8 H locs hr_7 hP hD hS => ?_)
            obtain ⟨q_9, rfl⟩ : ∃ z, z = u_8 := ⟨_, rfl⟩
            have h9R := zRe (ws' := [(mhe, .inl (cI, 8, .inl ghe)), (msi, .inl (cI, 8, .inl gsi)), (mce, .inl (cJ, 1280, .inr (.inl gce))), (mki, .inl (cI, 8, .inl gki)), (mpa, .inl (cI, 8, .inl gpa)), (zMO m0 npu nte nat_ nde nto nse nhu nga nsd nfa mrf mki mpa mta mla msl mco mhe mso msi msh mce mca mwo mnu mte nba npl nen nnu nwr mwa mke mma mth mtr nra nik), (mrf, .inl (cI, 8, .inl q_9))]) hP hD rfl
            clear hP hD
            obtain ⟨hP, hD⟩ := h9R
            obtain rfl := hr_7
            refine lv_goto (tgt := 276) hx hb dX8_meant_271 (by decide) ?_
            exact W.iret (v := (-5)) hx hb hr (fun t ht hW => ⟨⟨(-5), q_9, rfl, trivial, zRet ht hP hD [5, 6, 0, 1, 2, 3, 4] (by decide) rfl⟩, hS.F ht⟩) hS.2.2 dX8_meant_276
        · have fc_5 : i.toInt = (-1) := zf_eq c_5 rfl (by decide)
          refine lv_iload hx hb dX8_meant_257 (lv_at hl 3 rfl) ?_
          exact W.iret (v := v_1) hx hb hr (fun t ht hW => ⟨⟨v_1, grf, rfl, trivial, zRet ht hP hD [0, 1, 2, 3, 4, 5, 6] (by decide) rfl⟩, hS.F ht⟩) hS.2.2 dX8_meant_259
      · exfalso; have fc_4 : i_147.toInt < n.toInt := zf_nle c_4 rfl rfl; omega
    | succ nfu ih =>
      intro i_147 v_1 v_2 v_3 H locs ls hP hD hS hl hloi_147 hni_147
      refine lv_iload hx hb dX8_meant_147 (lv_at hl 0 rfl) ?_
      refine lv_iload_n hx hb dX8_meant_149 rfl (lv_at hl 6 rfl) ?_
      refine lv_icmp_ge (tgt := 252) hx hb dX8_meant_150 (by decide) (fun c_10 => ?_) (fun c_10 => ?_)
      · have fc_10 : n.toInt ≤ i_147.toInt := zf_le c_10 rfl rfl
        refine lv_iload_n hx hb dX8_meant_252 rfl (lv_at hl 7 rfl) ?_
        refine lv_iconst (v := (-1)) hx hb dX8_meant_253 (by decide) ?_
        refine lv_icmp_ne (tgt := 260) hx hb dX8_meant_254 (by decide) (fun c_11 => ?_) (fun c_11 => ?_)
        · have fc_11 : i.toInt ≠ (-1) := zf_ne c_11 rfl (by decide)
          refine lv_iload hx hb dX8_meant_260 (lv_at hl 3 rfl) ?_
          refine lv_if_ne (tgt := 274) hx hb dX8_meant_262 (by decide) (fun c_12 => ?_) (fun c_12 => ?_)
          · have fc_12 : v_1.toInt ≠ 0 := zf_ne c_12 rfl (by decide)
            refine lv_iload hx hb dX8_meant_274 (lv_at hl 1 rfl) ?_
            exact W.iret (v := v_3) hx hb hr (fun t ht hW => ⟨⟨v_3, grf, rfl, trivial, zRet ht hP hD [0, 1, 2, 3, 4, 5, 6] (by decide) rfl⟩, hS.F ht⟩) hS.2.2 dX8_meant_276
          · have fc_12 : v_1.toInt = 0 := zf_eq c_12 rfl (by decide)
            refine lv_aload_n hx hb dX8_meant_265 rfl (lv_at hl 4 rfl) ?_
            refine lv_bipush (v := (-5)) hx hb dX8_meant_266 (by decide) ?_
            skip
            refine zw_V (As := [.int (-5)]) (rest := []) (wr := [(mhe, .inl (cI, 8, .inl ghe)), (msi, .inl (cI, 8, .inl gsi)), (mce, .inl (cJ, 1280, .inr (.inl gce))), (mki, .inl (cI, 8, .inl gki)), (mpa, .inl (cI, 8, .inl gpa))]) ⟨hx, hb, hml, hown, hts⟩ (c_M_no_5 l D cI cJ cZ cP cS po m0 mrf mki mpa mta mla msl mco mhe mso msi msh mce mca mwo mnu mte mwa mke mma mth mtr (npu) (nte) (nat_) (nde) (nto) (nse) (nhu) (nga) (nsd) (nfa) (nba) (npl) (nen) (nnu) (nwr) (nra) (nik) grf hy0 hy1 hy2 hy3 hy4 hy5 hy6 hy7 hy8 hy9 hy10 hy11 hy12 hy13 H.size) (cwV 1 hts gX8_meant_X8_no rfl rfl rfl ⟨rfl, dh_X8_no⟩ ⟨Nat.le_of_ble_eq_true rfl, Nat.le_of_ble_eq_true rfl⟩) hK hN (hZ.kept hS) hP hD hS hA [0, 1] [2, 3, 4, 5, 6] rfl rfl (by decide) (by decide) (by decide) (va_recv (q := (RX8, TX8, 38)) hK hP (ci := 8) (q0 := 0) rfl rfl) rfl hl.1 rfl (Nat.le_of_ble_eq_true rfl) dX8_meant_268 ⟨Nat.le_of_ble_eq_true rfl, Nat.le_of_ble_eq_true rfl⟩ (fun r_13 u_14 H locs hr_13 hP hD hS => ?_)
            obtain ⟨q_15, rfl⟩ : ∃ z, z = u_14 := ⟨_, rfl⟩
            have h9R := zRe (ws' := [(mhe, .inl (cI, 8, .inl ghe)), (msi, .inl (cI, 8, .inl gsi)), (mce, .inl (cJ, 1280, .inr (.inl gce))), (mki, .inl (cI, 8, .inl gki)), (mpa, .inl (cI, 8, .inl gpa)), (zMO m0 npu nte nat_ nde nto nse nhu nga nsd nfa mrf mki mpa mta mla msl mco mhe mso msi msh mce mca mwo mnu mte nba npl nen nnu nwr mwa mke mma mth mtr nra nik), (mrf, .inl (cI, 8, .inl q_15))]) hP hD rfl
            clear hP hD
            obtain ⟨hP, hD⟩ := h9R
            obtain rfl := hr_13
            refine lv_goto (tgt := 276) hx hb dX8_meant_271 (by decide) ?_
            exact W.iret (v := (-5)) hx hb hr (fun t ht hW => ⟨⟨(-5), q_15, rfl, trivial, zRet ht hP hD [5, 6, 0, 1, 2, 3, 4] (by decide) rfl⟩, hS.F ht⟩) hS.2.2 dX8_meant_276
        · have fc_11 : i.toInt = (-1) := zf_eq c_11 rfl (by decide)
          refine lv_iload hx hb dX8_meant_257 (lv_at hl 3 rfl) ?_
          exact W.iret (v := v_1) hx hb hr (fun t ht hW => ⟨⟨v_1, grf, rfl, trivial, zRet ht hP hD [0, 1, 2, 3, 4, 5, 6] (by decide) rfl⟩, hS.F ht⟩) hS.2.2 dX8_meant_259
      · have fc_10 : i_147.toInt < n.toInt := zf_nle c_10 rfl rfl
        refine lv_aload_n hx hb dX8_meant_153 rfl (lv_at hl 4 rfl) ?_
        refine lv_iload_n hx hb dX8_meant_154 rfl (lv_at hl 5 rfl) ?_
        refine lv_iload hx hb dX8_meant_155 (lv_at hl 0 rfl) ?_
        refine zc_V (As := [.int s_, .int i_147]) (rest := []) ⟨hx, hb, hml, hown, hts⟩ (c_M_intAt l D cI cJ cZ cP cS po m0 mrf mki mpa mta mla msl mco mhe mso msi msh mce mca mwo mnu mte mwa mke mma mth mtr (npu) (nte) (nat_) (nde) (nto) (nse) (nhu) (nga) (nsd) (nfa) (nba) (npl) (nen) (nnu) (nwr) (nra) (nik) gce (s_) (i_147) hy0 hy1 hy2 hy3 hy4 hy5 hy6 hy7 hy8 hy9 hy10 hy11 hy12 hy13 (by omega) (by omega) (by omega) (by omega)) (cwV 2 hts gX8_meant_X8_intAt rfl rfl rfl ⟨rfl, dh_X8_intAt⟩ ⟨Nat.le_of_ble_eq_true rfl, Nat.le_of_ble_eq_true rfl⟩) hK hN (hZ.kept hS) hP (hP.sub [0, 4] rfl) (va_recv (q := (RX8, TX8, 38)) hK hP (ci := 8) (q0 := 0) rfl rfl) rfl hl.1 rfl (Nat.le_of_ble_eq_true rfl) dX8_meant_157 ⟨Nat.le_of_ble_eq_true rfl, Nat.le_of_ble_eq_true rfl⟩ (fun r_16 hr_16 => ?_)
        refine lv_istore (lv' := [(9, .int r_16), (8, .int i_147), (7, .int v_3), (6, .int v_2), (5, .int v_1), (0, .ref m0), (1, .int s_), (2, .int n), (3, .int i)]) hx hb dX8_meant_160 hl (by decide) rfl (fun ls hl => ?_)
        refine lv_iconst (v := 0) hx hb dX8_meant_162 (by decide) ?_
        refine lv_istore (lv' := [(10, .int 0), (9, .int r_16), (8, .int i_147), (7, .int v_3), (6, .int v_2), (5, .int v_1), (0, .ref m0), (1, .int s_), (2, .int n), (3, .int i)]) hx hb dX8_meant_163 hl (by decide) rfl (fun ls hl => ?_)
        refine lv_aload_n hx hb dX8_meant_165 rfl (lv_at hl 6 rfl) ?_
        refine va_get (D := D) (ci := 8) (v := .int npu) (C := RX8) (T := TX8) (N := 38) hx hb hts hi_X8_meant_8 hown hK hP 0 rfl rfl 0 (by decide) (hts (.fieldLink RX8 90 "TheLiningsInItModel" "pulls" "I") (List.mem_of_getElem? (i := 3) rfl)) (fun _ h9 => h9) rfl dX8_meant_166 ?_
        refine lv_iconst (v := 1) hx hb dX8_meant_169 (by decide) ?_
        refine lv_isub hx hb dX8_meant_170 ?_
        refine lv_topi (fun x_17 ex_17 => ?_)
        have qx_17 : x_17.toInt = npu.toInt - 1 := by rw [ex_17]; exact zf_sub rfl (by decide) (by omega) (by omega)
        refine lv_istore (lv' := [(11, .int x_17), (10, .int 0), (9, .int r_16), (8, .int i_147), (7, .int v_3), (6, .int v_2), (5, .int v_1), (0, .ref m0), (1, .int s_), (2, .int n), (3, .int i)]) hx hb dX8_meant_171 hl (by decide) rfl (fun ls hl => ?_)
        obtain ⟨i_173, hi_173⟩ : ∃ i : Int32, i = x_17 := ⟨_, rfl⟩
        replace hl : lv_has ls 12 [(11, .int i_173), (10, .int 0), (9, .int r_16), (8, .int i_147), (7, .int v_3), (6, .int v_2), (5, .int v_1), (0, .ref m0), (1, .int s_), (2, .int n), (3, .int i)] := by rw [hi_173]; exact lv_sub hl [0, 1, 2, 3, 4, 5, 6, 7, 8, 9, 10] rfl
        have h1i_173 : i_173.toInt = x_17.toInt := by rw [hi_173]
        obtain ⟨nfu_173, hni_173⟩ : ∃ nq9 : Nat, i_173.toInt + 1 ≤ (nq9 : Int) := ⟨(x_17.toInt + 1).toNat, by omega⟩
        have hloi_173 : i_173.toInt ≤ 7 := by omega
        obtain ⟨v_18, hv_18⟩ : ∃ g : Int32, g = v_3 := ⟨_, rfl⟩
        obtain ⟨v_19, hv_19⟩ : ∃ g : Int32, g = 0 := ⟨_, rfl⟩
        replace hl : lv_has ls 12 [(11, .int i_173), (10, .int v_19), (9, .int r_16), (8, .int i_147), (7, .int v_18), (6, .int v_2), (5, .int v_1), (0, .ref m0), (1, .int s_), (2, .int n), (3, .int i)] := by rw [hv_18, hv_19]; exact hl
        clear h1i_173 hi_173 hv_18 hv_19
        skip
        revert hni_173
        revert hloi_173
        revert hl
        revert hS
        revert hD
        revert hP
        revert ls
        revert locs
        revert H
        revert v_19
        revert v_18
        revert i_173
        induction nfu_173 with
        | zero =>
          intro i_173 v_18 v_19 H locs ls hP hD hS hl hloi_173 hni_173
          have hzi_173 : i_173.toInt ≤ -1 := by omega
          refine lv_iload hx hb dX8_meant_173 (lv_at hl 0 rfl) ?_
          refine lv_if_lt (tgt := 218) hx hb dX8_meant_175 (by decide) (fun c_20 => ?_) (fun c_20 => ?_)
          · have fc_20 : i_173.toInt < 0 := zf_lt c_20 rfl (by decide)
            refine lv_iload hx hb dX8_meant_218 (lv_at hl 6 rfl) ?_
            refine lv_iload hx hb dX8_meant_220 (lv_at hl 1 rfl) ?_
            refine lv_imul hx hb dX8_meant_222 ?_
            refine lv_topi (fun x_21 ex_21 => ?_)
            refine lv_ldcw (own := RX8) (v := 1000000) hx hb hown (hts _ (List.mem_of_getElem? (i := 4) rfl)) dX8_meant_223 ?_
            refine lv_icmp_le (tgt := 235) hx hb dX8_meant_226 (by decide) (fun c_22 => ?_) (fun c_22 => ?_)
            · have fc_22 : x_21.toInt ≤ 1000000 := zf_le c_22 rfl (by decide)
              refine lv_iload hx hb dX8_meant_235 (lv_at hl 6 rfl) ?_
              refine lv_iload hx hb dX8_meant_237 (lv_at hl 1 rfl) ?_
              refine lv_imul hx hb dX8_meant_239 ?_
              refine lv_topi (fun y_23 ey_23 => ?_)
              obtain rfl : x_21 = y_23 := ex_21.trans ey_23.symm
              refine lv_istore (lv' := [(5, .int x_21), (11, .int i_173), (10, .int v_19), (9, .int r_16), (8, .int i_147), (7, .int v_18), (6, .int v_2), (0, .ref m0), (1, .int s_), (2, .int n), (3, .int i)]) hx hb dX8_meant_240 hl (by decide) rfl (fun ls hl => ?_)
              refine lv_iload hx hb dX8_meant_242 (lv_at hl 3 rfl) ?_
              refine lv_istore (lv' := [(6, .int r_16), (5, .int x_21), (11, .int i_173), (10, .int v_19), (9, .int r_16), (8, .int i_147), (7, .int v_18), (0, .ref m0), (1, .int s_), (2, .int n), (3, .int i)]) hx hb dX8_meant_244 hl (by decide) rfl (fun ls hl => ?_)
              obtain ⟨x_24, ex_24⟩ : ∃ y : Int32, y = i_147 + 1 := ⟨_, rfl⟩
              have qx_24 : x_24.toInt = i_147.toInt + 1 := dw_inc ex_24 fc_10
              refine lv_iinc (v := x_24) (lv' := [(8, .int x_24), (6, .int r_16), (5, .int x_21), (11, .int i_173), (10, .int v_19), (9, .int r_16), (7, .int v_18), (0, .ref m0), (1, .int s_), (2, .int n), (3, .int i)]) hx hb dX8_meant_246 hl (k := 5) rfl ex_24.symm (by decide) rfl (fun ls hl => ?_)
              refine lv_goto (tgt := 147) hx hb dX8_meant_249 (by decide) ?_
              exact ih x_24 x_21 r_16 v_18 _ _ _ (hP.sub [0, 1, 2, 3, 4, 5, 6] rfl) (hD.sub [0, 1, 2, 3, 4, 5, 6] (by decide) rfl) hS (lv_sub hl [0, 6, 1, 2, 7, 8, 9, 10] rfl) (dw_lo hloi_147 qx_24) (dw_hn hni_147 qx_24)
            · have fc_22 : 1000000 < x_21.toInt := zf_nle c_22 rfl (by decide)
              refine lv_ldcw (own := RX8) (v := 1000000) hx hb hown (hts _ (List.mem_of_getElem? (i := 4) rfl)) dX8_meant_229 ?_
              refine lv_goto (tgt := 240) hx hb dX8_meant_232 (by decide) ?_
              refine lv_istore (lv' := [(5, .int 1000000), (11, .int i_173), (10, .int v_19), (9, .int r_16), (8, .int i_147), (7, .int v_18), (6, .int v_2), (0, .ref m0), (1, .int s_), (2, .int n), (3, .int i)]) hx hb dX8_meant_240 hl (by decide) rfl (fun ls hl => ?_)
              refine lv_iload hx hb dX8_meant_242 (lv_at hl 3 rfl) ?_
              refine lv_istore (lv' := [(6, .int r_16), (5, .int 1000000), (11, .int i_173), (10, .int v_19), (9, .int r_16), (8, .int i_147), (7, .int v_18), (0, .ref m0), (1, .int s_), (2, .int n), (3, .int i)]) hx hb dX8_meant_244 hl (by decide) rfl (fun ls hl => ?_)
              obtain ⟨x_25, ex_25⟩ : ∃ y : Int32, y = i_147 + 1 := ⟨_, rfl⟩
              have qx_25 : x_25.toInt = i_147.toInt + 1 := dw_inc ex_25 fc_10
              refine lv_iinc (v := x_25) (lv' := [(8, .int x_25), (6, .int r_16), (5, .int 1000000), (11, .int i_173), (10, .int v_19), (9, .int r_16), (7, .int v_18), (0, .ref m0), (1, .int s_), (2, .int n), (3, .int i)]) hx hb dX8_meant_246 hl (k := 5) rfl ex_25.symm (by decide) rfl (fun ls hl => ?_)
              refine lv_goto (tgt := 147) hx hb dX8_meant_249 (by decide) ?_
              exact ih x_25 1000000 r_16 v_18 _ _ _ (hP.sub [0, 1, 2, 3, 4, 5, 6] rfl) (hD.sub [0, 1, 2, 3, 4, 5, 6] (by decide) rfl) hS (lv_sub hl [0, 6, 1, 2, 7, 8, 9, 10] rfl) (dw_lo hloi_147 qx_25) (dw_hn hni_147 qx_25)
          · exfalso; have fc_20 : 0 ≤ i_173.toInt := zf_nlt c_20 rfl (by decide); omega
        | succ nfu_173 ih_173 =>
          intro i_173 v_18 v_19 H locs ls hP hD hS hl hloi_173 hni_173
          refine lv_iload hx hb dX8_meant_173 (lv_at hl 0 rfl) ?_
          refine lv_if_lt (tgt := 218) hx hb dX8_meant_175 (by decide) (fun c_26 => ?_) (fun c_26 => ?_)
          · have fc_26 : i_173.toInt < 0 := zf_lt c_26 rfl (by decide)
            refine lv_iload hx hb dX8_meant_218 (lv_at hl 6 rfl) ?_
            refine lv_iload hx hb dX8_meant_220 (lv_at hl 1 rfl) ?_
            refine lv_imul hx hb dX8_meant_222 ?_
            refine lv_topi (fun x_27 ex_27 => ?_)
            refine lv_ldcw (own := RX8) (v := 1000000) hx hb hown (hts _ (List.mem_of_getElem? (i := 4) rfl)) dX8_meant_223 ?_
            refine lv_icmp_le (tgt := 235) hx hb dX8_meant_226 (by decide) (fun c_28 => ?_) (fun c_28 => ?_)
            · have fc_28 : x_27.toInt ≤ 1000000 := zf_le c_28 rfl (by decide)
              refine lv_iload hx hb dX8_meant_235 (lv_at hl 6 rfl) ?_
              refine lv_iload hx hb dX8_meant_237 (lv_at hl 1 rfl) ?_
              refine lv_imul hx hb dX8_meant_239 ?_
              refine lv_topi (fun y_29 ey_29 => ?_)
              obtain rfl : x_27 = y_29 := ex_27.trans ey_29.symm
              refine lv_istore (lv' := [(5, .int x_27), (11, .int i_173), (10, .int v_19), (9, .int r_16), (8, .int i_147), (7, .int v_18), (6, .int v_2), (0, .ref m0), (1, .int s_), (2, .int n), (3, .int i)]) hx hb dX8_meant_240 hl (by decide) rfl (fun ls hl => ?_)
              refine lv_iload hx hb dX8_meant_242 (lv_at hl 3 rfl) ?_
              refine lv_istore (lv' := [(6, .int r_16), (5, .int x_27), (11, .int i_173), (10, .int v_19), (9, .int r_16), (8, .int i_147), (7, .int v_18), (0, .ref m0), (1, .int s_), (2, .int n), (3, .int i)]) hx hb dX8_meant_244 hl (by decide) rfl (fun ls hl => ?_)
              obtain ⟨x_30, ex_30⟩ : ∃ y : Int32, y = i_147 + 1 := ⟨_, rfl⟩
              have qx_30 : x_30.toInt = i_147.toInt + 1 := dw_inc ex_30 fc_10
              refine lv_iinc (v := x_30) (lv' := [(8, .int x_30), (6, .int r_16), (5, .int x_27), (11, .int i_173), (10, .int v_19), (9, .int r_16), (7, .int v_18), (0, .ref m0), (1, .int s_), (2, .int n), (3, .int i)]) hx hb dX8_meant_246 hl (k := 5) rfl ex_30.symm (by decide) rfl (fun ls hl => ?_)
              refine lv_goto (tgt := 147) hx hb dX8_meant_249 (by decide) ?_
              exact ih x_30 x_27 r_16 v_18 _ _ _ (hP.sub [0, 1, 2, 3, 4, 5, 6] rfl) (hD.sub [0, 1, 2, 3, 4, 5, 6] (by decide) rfl) hS (lv_sub hl [0, 6, 1, 2, 7, 8, 9, 10] rfl) (dw_lo hloi_147 qx_30) (dw_hn hni_147 qx_30)
            · have fc_28 : 1000000 < x_27.toInt := zf_nle c_28 rfl (by decide)
              refine lv_ldcw (own := RX8) (v := 1000000) hx hb hown (hts _ (List.mem_of_getElem? (i := 4) rfl)) dX8_meant_229 ?_
              refine lv_goto (tgt := 240) hx hb dX8_meant_232 (by decide) ?_
              refine lv_istore (lv' := [(5, .int 1000000), (11, .int i_173), (10, .int v_19), (9, .int r_16), (8, .int i_147), (7, .int v_18), (6, .int v_2), (0, .ref m0), (1, .int s_), (2, .int n), (3, .int i)]) hx hb dX8_meant_240 hl (by decide) rfl (fun ls hl => ?_)
              refine lv_iload hx hb dX8_meant_242 (lv_at hl 3 rfl) ?_
              refine lv_istore (lv' := [(6, .int r_16), (5, .int 1000000), (11, .int i_173), (10, .int v_19), (9, .int r_16), (8, .int i_147), (7, .int v_18), (0, .ref m0), (1, .int s_), (2, .int n), (3, .int i)]) hx hb dX8_meant_244 hl (by decide) rfl (fun ls hl => ?_)
              obtain ⟨x_31, ex_31⟩ : ∃ y : Int32, y = i_147 + 1 := ⟨_, rfl⟩
              have qx_31 : x_31.toInt = i_147.toInt + 1 := dw_inc ex_31 fc_10
              refine lv_iinc (v := x_31) (lv' := [(8, .int x_31), (6, .int r_16), (5, .int 1000000), (11, .int i_173), (10, .int v_19), (9, .int r_16), (7, .int v_18), (0, .ref m0), (1, .int s_), (2, .int n), (3, .int i)]) hx hb dX8_meant_246 hl (k := 5) rfl ex_31.symm (by decide) rfl (fun ls hl => ?_)
              refine lv_goto (tgt := 147) hx hb dX8_meant_249 (by decide) ?_
              exact ih x_31 1000000 r_16 v_18 _ _ _ (hP.sub [0, 1, 2, 3, 4, 5, 6] rfl) (hD.sub [0, 1, 2, 3, 4, 5, 6] (by decide) rfl) hS (lv_sub hl [0, 6, 1, 2, 7, 8, 9, 10] rfl) (dw_lo hloi_147 qx_31) (dw_hn hni_147 qx_31)
          · have fc_26 : 0 ≤ i_173.toInt := zf_nlt c_26 rfl (by decide)
            refine lv_aload_n hx hb dX8_meant_178 rfl (lv_at hl 7 rfl) ?_
            refine lv_iload hx hb dX8_meant_179 (lv_at hl 0 rfl) ?_
            refine lv_iload hx hb dX8_meant_181 (lv_at hl 5 rfl) ?_
            refine lv_iload hx hb dX8_meant_183 (lv_at hl 2 rfl) ?_
            refine zc_V (As := [.int i_173, .int v_2, .int r_16]) (rest := []) ⟨hx, hb, hml, hown, hts⟩ (c_M_mayMake l D cI cJ cZ cP cS po m0 mrf mki mpa mta mla msl mco mhe mso msi msh mce mca mwo mnu mte mwa mke mma mth mtr (npu) (nte) (nat_) (nde) (nto) (nse) (nhu) (nga) (nsd) (nfa) (nba) (npl) (nen) (nnu) (nwr) (nra) (nik) gki gpa (i_173) (v_2) (r_16) hy0 hy1 hy2 hy3 hy4 hy5 hy6 hy7 hy8 hy9 hy10 hy11 hy12 hy13 (by omega) (by omega) hp_gki hp_gpa) (cwV 3 hts gX8_meant_X8_mayMake rfl rfl rfl ⟨rfl, dh_X8_mayMake⟩ ⟨Nat.le_of_ble_eq_true rfl, Nat.le_of_ble_eq_true rfl⟩) hK hN (hZ.kept hS) hP (hP.sub [0, 5, 6] rfl) (va_recv (q := (RX8, TX8, 38)) hK hP (ci := 8) (q0 := 0) rfl rfl) rfl hl.1 rfl (Nat.le_of_ble_eq_true rfl) dX8_meant_185 ⟨Nat.le_of_ble_eq_true rfl, Nat.le_of_ble_eq_true rfl⟩ (fun r_32 hr_32 => ?_)
            obtain ⟨g_33, g_34⟩ := hr_32
            refine lv_if_ne (tgt := 194) hx hb dX8_meant_188 (by decide) (fun c_35 => ?_) (fun c_35 => ?_)
            · have fc_35 : r_32.toInt ≠ 0 := zf_ne c_35 rfl (by decide)
              obtain ⟨x_36, ex_36⟩ : ∃ y : Int32, y = v_19 + 1 := ⟨_, rfl⟩
              refine lv_iinc (v := x_36) (lv' := [(10, .int x_36), (11, .int i_173), (9, .int r_16), (8, .int i_147), (7, .int v_18), (6, .int v_2), (5, .int v_1), (0, .ref m0), (1, .int s_), (2, .int n), (3, .int i)]) hx hb dX8_meant_194 hl (k := 1) rfl ex_36.symm (by decide) rfl (fun ls hl => ?_)
              refine lv_iload hx hb dX8_meant_197 (lv_at hl 3 rfl) ?_
              refine lv_iload_n hx hb dX8_meant_199 rfl (lv_at hl 10 rfl) ?_
              refine lv_icmp_ne (tgt := 208) hx hb dX8_meant_200 (by decide) (fun c_37 => ?_) (fun c_37 => ?_)
              · have fc_37 : i_147.toInt ≠ i.toInt := zf_ne c_37 rfl rfl
                refine lv_iload hx hb dX8_meant_208 (lv_at hl 4 rfl) ?_
                refine lv_istore (lv' := [(7, .int v_18), (10, .int x_36), (11, .int i_173), (9, .int r_16), (8, .int i_147), (6, .int v_2), (5, .int v_1), (0, .ref m0), (1, .int s_), (2, .int n), (3, .int i)]) hx hb dX8_meant_210 hl (by decide) rfl (fun ls hl => ?_)
                obtain ⟨x_38, ex_38⟩ : ∃ y : Int32, y = i_173 + (-1) := ⟨_, rfl⟩
                have qx_38 : x_38.toInt = i_173.toInt + (-1) := by rw [ex_38]; exact zf_add rfl (by decide) (by omega) (by omega)
                refine lv_iinc (v := x_38) (lv' := [(11, .int x_38), (7, .int v_18), (10, .int x_36), (9, .int r_16), (8, .int i_147), (6, .int v_2), (5, .int v_1), (0, .ref m0), (1, .int s_), (2, .int n), (3, .int i)]) hx hb dX8_meant_212 hl (k := 2) rfl ex_38.symm (by decide) rfl (fun ls hl => ?_)
                refine lv_goto (tgt := 173) hx hb dX8_meant_215 (by decide) ?_
                exact ih_173 x_38 v_18 x_36 _ _ _ (hP.sub [0, 1, 2, 3, 4, 5, 6] rfl) (hD.sub [0, 1, 2, 3, 4, 5, 6] (by decide) rfl) hS (lv_sub hl [0, 2, 3, 4, 1, 5, 6, 7, 8, 9, 10] rfl) (by omega) (by omega)
              · have fc_37 : i_147.toInt = i.toInt := zf_eq c_37 rfl rfl
                refine lv_iload hx hb dX8_meant_203 (lv_at hl 1 rfl) ?_
                refine lv_goto (tgt := 210) hx hb dX8_meant_205 (by decide) ?_
                refine lv_istore (lv' := [(7, .int i_173), (10, .int x_36), (11, .int i_173), (9, .int r_16), (8, .int i_147), (6, .int v_2), (5, .int v_1), (0, .ref m0), (1, .int s_), (2, .int n), (3, .int i)]) hx hb dX8_meant_210 hl (by decide) rfl (fun ls hl => ?_)
                obtain ⟨x_39, ex_39⟩ : ∃ y : Int32, y = i_173 + (-1) := ⟨_, rfl⟩
                have qx_39 : x_39.toInt = i_173.toInt + (-1) := by rw [ex_39]; exact zf_add rfl (by decide) (by omega) (by omega)
                refine lv_iinc (v := x_39) (lv' := [(11, .int x_39), (7, .int i_173), (10, .int x_36), (9, .int r_16), (8, .int i_147), (6, .int v_2), (5, .int v_1), (0, .ref m0), (1, .int s_), (2, .int n), (3, .int i)]) hx hb dX8_meant_212 hl (k := 2) rfl ex_39.symm (by decide) rfl (fun ls hl => ?_)
                refine lv_goto (tgt := 173) hx hb dX8_meant_215 (by decide) ?_
                exact ih_173 x_39 i_173 x_36 _ _ _ (hP.sub [0, 1, 2, 3, 4, 5, 6] rfl) (hD.sub [0, 1, 2, 3, 4, 5, 6] (by decide) rfl) hS (lv_sub hl [0, 2, 3, 4, 1, 5, 6, 7, 8, 9, 10] rfl) (by omega) (by omega)
            · have fc_35 : r_32.toInt = 0 := zf_eq c_35 rfl (by decide)
              refine lv_goto (tgt := 212) hx hb dX8_meant_191 (by decide) ?_
              obtain ⟨x_40, ex_40⟩ : ∃ y : Int32, y = i_173 + (-1) := ⟨_, rfl⟩
              have qx_40 : x_40.toInt = i_173.toInt + (-1) := by rw [ex_40]; exact zf_add rfl (by decide) (by omega) (by omega)
              refine lv_iinc (v := x_40) (lv' := [(11, .int x_40), (10, .int v_19), (9, .int r_16), (8, .int i_147), (7, .int v_18), (6, .int v_2), (5, .int v_1), (0, .ref m0), (1, .int s_), (2, .int n), (3, .int i)]) hx hb dX8_meant_212 hl (k := 0) rfl ex_40.symm (by decide) rfl (fun ls hl => ?_)
              refine lv_goto (tgt := 173) hx hb dX8_meant_215 (by decide) ?_
              exact ih_173 x_40 v_18 v_19 _ _ _ (hP.sub [0, 1, 2, 3, 4, 5, 6] rfl) (hD.sub [0, 1, 2, 3, 4, 5, 6] (by decide) rfl) hS (lv_sub hl [0, 1, 2, 3, 4, 5, 6, 7, 8, 9, 10] rfl) (by omega) (by omega)
  refine zcut (T := fun K => ∀ (H : Heap) (locs : List Loc) (ls : Array Slot) (ba : Int32) (hP : va_P D vwCl [(zMO m0 npu nte nat_ nde nto nse nhu nga nsd nfa mrf mki mpa mta mla msl mco mhe mso msi msh mce mca mwo mnu mte nba npl nen nnu nwr mwa mke mma mth mtr nra nik), (mrf, .inl (cI, 8, .inl grf)), (mhe, .inl (cI, 8, .inl ghe)), (msi, .inl (cI, 8, .inl gsi)), (mce, .inl (cJ, 1280, .inr (.inl gce))), (mki, .inl (cI, 8, .inl gki)), (mpa, .inl (cI, 8, .inl gpa))] H) (hD : va_D (va_A [(zMO m0 npu nte nat_ nde nto nse nhu nga nsd nfa mrf mki mpa mta mla msl mco mhe mso msi msh mce mca mwo mnu mte nba npl nen nnu nwr mwa mke mma mth mtr nra nik), (mrf, .inl (cI, 8, .inl grf)), (mhe, .inl (cI, 8, .inl ghe)), (msi, .inl (cI, 8, .inl gsi)), (mce, .inl (cJ, 1280, .inr (.inl gce))), (mki, .inl (cI, 8, .inl gki)), (mpa, .inl (cI, 8, .inl gpa))] s.heap.size) [(zMO m0 npu nte nat_ nde nto nse nhu nga nsd nfa mrf mki mpa mta mla msl mco mhe mso msi msh mce mca mwo mnu mte nba npl nen nnu nwr mwa mke mma mth mtr nra nik), (mrf, .inl (cI, 8, .inl grf)), (mhe, .inl (cI, 8, .inl ghe)), (msi, .inl (cI, 8, .inl gsi)), (mce, .inl (cJ, 1280, .inr (.inl gce))), (mki, .inl (cI, 8, .inl gki)), (mpa, .inl (cI, 8, .inl gpa))]) (hS : va_S (va_A [(zMO m0 npu nte nat_ nde nto nse nhu nga nsd nfa mrf mki mpa mta mla msl mco mhe mso msi msh mce mca mwo mnu mte nba npl nen nnu nwr mwa mke mma mth mtr nra nik), (mrf, .inl (cI, 8, .inl grf)), (mhe, .inl (cI, 8, .inl ghe)), (msi, .inl (cI, 8, .inl gsi)), (mce, .inl (cJ, 1280, .inr (.inl gce))), (mki, .inl (cI, 8, .inl gki)), (mpa, .inl (cI, 8, .inl gpa))] s.heap.size) s.heap H locs) (hl : lv_has ls 12 [(0, .ref m0), (1, .int s_), (2, .int n), (3, .int i), (4, .int ba)]) (hf55_0 : -6 ≤ ba.toInt ∧ ba.toInt ≤ 0) (hf55_1 : (ba.toInt = 0 → (0 ≤ s_.toInt ∧ s_.toInt ≤ 7) ∧ 1 ≤ n.toInt ∧ n.toInt ≤ 20)), K H locs ls) (pc := 55) ?_ (fun hcut55 => ?_)
  · intro H locs ls ba hP hD hS hl hf55_0 hf55_1
    refine lv_iconst (v := 0) hx hb dX8_meant_55 (by decide) ?_
    refine lv_istore (lv' := [(5, .int 0), (0, .ref m0), (1, .int s_), (2, .int n), (3, .int i), (4, .int ba)]) hx hb dX8_meant_56 hl (by decide) rfl (fun ls hl => ?_)
    obtain ⟨i_58, hi_58⟩ : ∃ i : Int32, i = 0 := ⟨_, rfl⟩
    replace hl : lv_has ls 12 [(5, .int i_58), (0, .ref m0), (1, .int s_), (2, .int n), (3, .int i), (4, .int ba)] := by rw [hi_58]; exact lv_sub hl [0, 1, 2, 3, 4, 5] rfl
    have h1i_58 : i_58.toInt = 0 := by rw [hi_58]; decide
    obtain ⟨nfu, hni_58⟩ : ∃ nq9 : Nat, n.toInt ≤ i_58.toInt + (nq9 : Int) := ⟨((n.toInt : Int) - 0).toNat, by omega⟩
    have hloi_58 : 0 ≤ i_58.toInt := by omega
    obtain ⟨v_41, hv_41⟩ : ∃ g : Int32, g = ba := ⟨_, rfl⟩
    replace hl : lv_has ls 12 [(5, .int i_58), (0, .ref m0), (1, .int s_), (2, .int n), (3, .int i), (4, .int v_41)] := by rw [hv_41]; exact hl
    have hbv_41 : -6 ≤ v_41.toInt ∧ v_41.toInt ≤ 0 := by rw [hv_41]; exact ⟨by omega, by omega⟩
    have hvi_58_0 : ((v_41 : Int32).toInt = 0 → (0 ≤ s_.toInt ∧ s_.toInt ≤ 7) ∧ 1 ≤ n.toInt ∧ n.toInt ≤ 20) := by
      (try rw [hi_58]); (try rw [hv_41]); omega
    clear h1i_58 hi_58 hv_41
    skip
    revert hni_58
    revert hloi_58
    revert hvi_58_0
    revert hbv_41
    revert hl
    revert hS
    revert hD
    revert hP
    revert ls
    revert locs
    revert H
    revert v_41
    revert i_58
    induction nfu with
    | zero =>
      intro i_58 v_41 H locs ls hP hD hS hl hbv_41 hvi_58_0 hloi_58 hni_58
      have hzi_58 : n.toInt ≤ i_58.toInt := by omega
      refine lv_iload hx hb dX8_meant_58 (lv_at hl 0 rfl) ?_
      refine lv_iload_n hx hb dX8_meant_60 rfl (lv_at hl 3 rfl) ?_
      refine lv_icmp_ge (tgt := 101) hx hb dX8_meant_61 (by decide) (fun c_42 => ?_) (fun c_42 => ?_)
      · have fc_42 : n.toInt ≤ i_58.toInt := zf_le c_42 rfl rfl
        refine lv_iload hx hb dX8_meant_101 (lv_at hl 5 rfl) ?_
        refine lv_if_ne (tgt := 120) hx hb dX8_meant_103 (by decide) (fun c_43 => ?_) (fun c_43 => ?_)
        · have fc_43 : v_41.toInt ≠ 0 := zf_ne c_43 rfl (by decide)
          refine lv_iload hx hb dX8_meant_120 (lv_at hl 5 rfl) ?_
          refine lv_if_eq (tgt := 132) hx hb dX8_meant_122 (by decide) (fun c_44 => ?_) (fun c_44 => ?_)
          · exfalso; have fc_44 : v_41.toInt = 0 := zf_eq c_44 rfl (by decide); omega
          · have fc_44 : v_41.toInt ≠ 0 := zf_ne c_44 rfl (by decide)
            refine lv_aload_n hx hb dX8_meant_125 rfl (lv_at hl 1 rfl) ?_
            refine lv_iload hx hb dX8_meant_126 (lv_at hl 5 rfl) ?_
            skip
            refine zw_V (As := [.int v_41]) (rest := []) (wr := [(mhe, .inl (cI, 8, .inl ghe)), (msi, .inl (cI, 8, .inl gsi)), (mce, .inl (cJ, 1280, .inr (.inl gce))), (mki, .inl (cI, 8, .inl gki)), (mpa, .inl (cI, 8, .inl gpa))]) ⟨hx, hb, hml, hown, hts⟩ (c_M_no l D cI cJ cZ cP cS po m0 mrf mki mpa mta mla msl mco mhe mso msi msh mce mca mwo mnu mte mwa mke mma mth mtr (npu) (nte) (nat_) (nde) (nto) (nse) (nhu) (nga) (nsd) (nfa) (nba) (npl) (nen) (nnu) (nwr) (nra) (nik) grf (v_41) hy0 hy1 hy2 hy3 hy4 hy5 hy6 hy7 hy8 hy9 hy10 hy11 hy12 hy13 (by omega) (by omega) H.size) (cwV 1 hts gX8_meant_X8_no rfl rfl rfl ⟨rfl, dh_X8_no⟩ ⟨Nat.le_of_ble_eq_true rfl, Nat.le_of_ble_eq_true rfl⟩) hK hN (hZ.kept hS) hP hD hS hA [0, 1] [2, 3, 4, 5, 6] rfl rfl (by decide) (by decide) (by decide) (va_recv (q := (RX8, TX8, 38)) hK hP (ci := 8) (q0 := 0) rfl rfl) rfl hl.1 rfl (Nat.le_of_ble_eq_true rfl) dX8_meant_128 ⟨Nat.le_of_ble_eq_true rfl, Nat.le_of_ble_eq_true rfl⟩ (fun r_45 u_46 H locs hr_45 hP hD hS => ?_)
            obtain ⟨q_47, rfl⟩ : ∃ z, z = u_46 := ⟨_, rfl⟩
            have h9R := zRe (ws' := [(mhe, .inl (cI, 8, .inl ghe)), (msi, .inl (cI, 8, .inl gsi)), (mce, .inl (cJ, 1280, .inr (.inl gce))), (mki, .inl (cI, 8, .inl gki)), (mpa, .inl (cI, 8, .inl gpa)), (zMO m0 npu nte nat_ nde nto nse nhu nga nsd nfa mrf mki mpa mta mla msl mco mhe mso msi msh mce mca mwo mnu mte nba npl nen nnu nwr mwa mke mma mth mtr nra nik), (mrf, .inl (cI, 8, .inl q_47))]) hP hD rfl
            clear hP hD
            obtain ⟨hP, hD⟩ := h9R
            have w_48 := hr_45
            obtain rfl : v_41 = r_45 := w_48.symm
            exact W.iret (v := v_41) hx hb hr (fun t ht hW => ⟨⟨v_41, q_47, rfl, trivial, zRet ht hP hD [5, 6, 0, 1, 2, 3, 4] (by decide) rfl⟩, hS.F ht⟩) hS.2.2 dX8_meant_131
        · have fc_43 : v_41.toInt = 0 := zf_eq c_43 rfl (by decide)
          refine lv_iload_n hx hb dX8_meant_106 rfl (lv_at hl 4 rfl) ?_
          refine lv_iconst (v := (-1)) hx hb dX8_meant_107 (by decide) ?_
          refine lv_icmp_lt (tgt := 116) hx hb dX8_meant_108 (by decide) (fun c_49 => ?_) (fun c_49 => ?_)
          · have fc_49 : i.toInt < (-1) := zf_lt c_49 rfl (by decide)
            refine lv_bipush (v := (-5)) hx hb dX8_meant_116 (by decide) ?_
            refine lv_istore (lv' := [(4, .int (-5)), (5, .int i_58), (0, .ref m0), (1, .int s_), (2, .int n), (3, .int i)]) hx hb dX8_meant_118 hl (by decide) rfl (fun ls hl => ?_)
            refine lv_iload hx hb dX8_meant_120 (lv_at hl 0 rfl) ?_
            refine lv_if_eq (tgt := 132) hx hb dX8_meant_122 (by decide) (fun c_50 => ?_) (fun c_50 => ?_)
            · exact absurd c_50 (by decide)
            · refine lv_aload_n hx hb dX8_meant_125 rfl (lv_at hl 2 rfl) ?_
              refine lv_iload hx hb dX8_meant_126 (lv_at hl 0 rfl) ?_
              skip
              refine zw_V (As := [.int (-5)]) (rest := []) (wr := [(mhe, .inl (cI, 8, .inl ghe)), (msi, .inl (cI, 8, .inl gsi)), (mce, .inl (cJ, 1280, .inr (.inl gce))), (mki, .inl (cI, 8, .inl gki)), (mpa, .inl (cI, 8, .inl gpa))]) ⟨hx, hb, hml, hown, hts⟩ (c_M_no_5 l D cI cJ cZ cP cS po m0 mrf mki mpa mta mla msl mco mhe mso msi msh mce mca mwo mnu mte mwa mke mma mth mtr (npu) (nte) (nat_) (nde) (nto) (nse) (nhu) (nga) (nsd) (nfa) (nba) (npl) (nen) (nnu) (nwr) (nra) (nik) grf hy0 hy1 hy2 hy3 hy4 hy5 hy6 hy7 hy8 hy9 hy10 hy11 hy12 hy13 H.size) (cwV 1 hts gX8_meant_X8_no rfl rfl rfl ⟨rfl, dh_X8_no⟩ ⟨Nat.le_of_ble_eq_true rfl, Nat.le_of_ble_eq_true rfl⟩) hK hN (hZ.kept hS) hP hD hS hA [0, 1] [2, 3, 4, 5, 6] rfl rfl (by decide) (by decide) (by decide) (va_recv (q := (RX8, TX8, 38)) hK hP (ci := 8) (q0 := 0) rfl rfl) rfl hl.1 rfl (Nat.le_of_ble_eq_true rfl) dX8_meant_128 ⟨Nat.le_of_ble_eq_true rfl, Nat.le_of_ble_eq_true rfl⟩ (fun r_51 u_52 H locs hr_51 hP hD hS => ?_)
              obtain ⟨q_53, rfl⟩ : ∃ z, z = u_52 := ⟨_, rfl⟩
              have h9R := zRe (ws' := [(mhe, .inl (cI, 8, .inl ghe)), (msi, .inl (cI, 8, .inl gsi)), (mce, .inl (cJ, 1280, .inr (.inl gce))), (mki, .inl (cI, 8, .inl gki)), (mpa, .inl (cI, 8, .inl gpa)), (zMO m0 npu nte nat_ nde nto nse nhu nga nsd nfa mrf mki mpa mta mla msl mco mhe mso msi msh mce mca mwo mnu mte nba npl nen nnu nwr mwa mke mma mth mtr nra nik), (mrf, .inl (cI, 8, .inl q_53))]) hP hD rfl
              clear hP hD
              obtain ⟨hP, hD⟩ := h9R
              obtain rfl := hr_51
              exact W.iret (v := (-5)) hx hb hr (fun t ht hW => ⟨⟨(-5), q_53, rfl, trivial, zRet ht hP hD [5, 6, 0, 1, 2, 3, 4] (by decide) rfl⟩, hS.F ht⟩) hS.2.2 dX8_meant_131
          · have fc_49 : (-1) ≤ i.toInt := zf_nlt c_49 rfl (by decide)
            refine lv_iload_n hx hb dX8_meant_111 rfl (lv_at hl 4 rfl) ?_
            refine lv_iload_n hx hb dX8_meant_112 rfl (lv_at hl 3 rfl) ?_
            refine lv_icmp_lt (tgt := 120) hx hb dX8_meant_113 (by decide) (fun c_54 => ?_) (fun c_54 => ?_)
            · have fc_54 : i.toInt < n.toInt := zf_lt c_54 rfl rfl
              refine lv_iload hx hb dX8_meant_120 (lv_at hl 5 rfl) ?_
              refine lv_if_eq (tgt := 132) hx hb dX8_meant_122 (by decide) (fun c_55 => ?_) (fun c_55 => ?_)
              · have fc_55 : v_41.toInt = 0 := zf_eq c_55 rfl (by decide)
                exact hcut132 H locs ls  hP hD hS (lv_sub hl [1, 2, 3, 4] rfl) (by first | omega | assumption | (simp; done) | (simp; omega))
              · exfalso; have fc_55 : v_41.toInt ≠ 0 := zf_ne c_55 rfl (by decide); omega
            · have fc_54 : n.toInt ≤ i.toInt := zf_nlt c_54 rfl rfl
              refine lv_bipush (v := (-5)) hx hb dX8_meant_116 (by decide) ?_
              refine lv_istore (lv' := [(4, .int (-5)), (5, .int i_58), (0, .ref m0), (1, .int s_), (2, .int n), (3, .int i)]) hx hb dX8_meant_118 hl (by decide) rfl (fun ls hl => ?_)
              refine lv_iload hx hb dX8_meant_120 (lv_at hl 0 rfl) ?_
              refine lv_if_eq (tgt := 132) hx hb dX8_meant_122 (by decide) (fun c_56 => ?_) (fun c_56 => ?_)
              · exact absurd c_56 (by decide)
              · refine lv_aload_n hx hb dX8_meant_125 rfl (lv_at hl 2 rfl) ?_
                refine lv_iload hx hb dX8_meant_126 (lv_at hl 0 rfl) ?_
                skip
                refine zw_V (As := [.int (-5)]) (rest := []) (wr := [(mhe, .inl (cI, 8, .inl ghe)), (msi, .inl (cI, 8, .inl gsi)), (mce, .inl (cJ, 1280, .inr (.inl gce))), (mki, .inl (cI, 8, .inl gki)), (mpa, .inl (cI, 8, .inl gpa))]) ⟨hx, hb, hml, hown, hts⟩ (c_M_no_5 l D cI cJ cZ cP cS po m0 mrf mki mpa mta mla msl mco mhe mso msi msh mce mca mwo mnu mte mwa mke mma mth mtr (npu) (nte) (nat_) (nde) (nto) (nse) (nhu) (nga) (nsd) (nfa) (nba) (npl) (nen) (nnu) (nwr) (nra) (nik) grf hy0 hy1 hy2 hy3 hy4 hy5 hy6 hy7 hy8 hy9 hy10 hy11 hy12 hy13 H.size) (cwV 1 hts gX8_meant_X8_no rfl rfl rfl ⟨rfl, dh_X8_no⟩ ⟨Nat.le_of_ble_eq_true rfl, Nat.le_of_ble_eq_true rfl⟩) hK hN (hZ.kept hS) hP hD hS hA [0, 1] [2, 3, 4, 5, 6] rfl rfl (by decide) (by decide) (by decide) (va_recv (q := (RX8, TX8, 38)) hK hP (ci := 8) (q0 := 0) rfl rfl) rfl hl.1 rfl (Nat.le_of_ble_eq_true rfl) dX8_meant_128 ⟨Nat.le_of_ble_eq_true rfl, Nat.le_of_ble_eq_true rfl⟩ (fun r_57 u_58 H locs hr_57 hP hD hS => ?_)
                obtain ⟨q_59, rfl⟩ : ∃ z, z = u_58 := ⟨_, rfl⟩
                have h9R := zRe (ws' := [(mhe, .inl (cI, 8, .inl ghe)), (msi, .inl (cI, 8, .inl gsi)), (mce, .inl (cJ, 1280, .inr (.inl gce))), (mki, .inl (cI, 8, .inl gki)), (mpa, .inl (cI, 8, .inl gpa)), (zMO m0 npu nte nat_ nde nto nse nhu nga nsd nfa mrf mki mpa mta mla msl mco mhe mso msi msh mce mca mwo mnu mte nba npl nen nnu nwr mwa mke mma mth mtr nra nik), (mrf, .inl (cI, 8, .inl q_59))]) hP hD rfl
                clear hP hD
                obtain ⟨hP, hD⟩ := h9R
                obtain rfl := hr_57
                exact W.iret (v := (-5)) hx hb hr (fun t ht hW => ⟨⟨(-5), q_59, rfl, trivial, zRet ht hP hD [5, 6, 0, 1, 2, 3, 4] (by decide) rfl⟩, hS.F ht⟩) hS.2.2 dX8_meant_131
      · exfalso; have fc_42 : i_58.toInt < n.toInt := zf_nle c_42 rfl rfl; omega
    | succ nfu ih =>
      intro i_58 v_41 H locs ls hP hD hS hl hbv_41 hvi_58_0 hloi_58 hni_58
      refine lv_iload hx hb dX8_meant_58 (lv_at hl 0 rfl) ?_
      refine lv_iload_n hx hb dX8_meant_60 rfl (lv_at hl 3 rfl) ?_
      refine lv_icmp_ge (tgt := 101) hx hb dX8_meant_61 (by decide) (fun c_60 => ?_) (fun c_60 => ?_)
      · have fc_60 : n.toInt ≤ i_58.toInt := zf_le c_60 rfl rfl
        refine lv_iload hx hb dX8_meant_101 (lv_at hl 5 rfl) ?_
        refine lv_if_ne (tgt := 120) hx hb dX8_meant_103 (by decide) (fun c_61 => ?_) (fun c_61 => ?_)
        · have fc_61 : v_41.toInt ≠ 0 := zf_ne c_61 rfl (by decide)
          refine lv_iload hx hb dX8_meant_120 (lv_at hl 5 rfl) ?_
          refine lv_if_eq (tgt := 132) hx hb dX8_meant_122 (by decide) (fun c_62 => ?_) (fun c_62 => ?_)
          · exfalso; have fc_62 : v_41.toInt = 0 := zf_eq c_62 rfl (by decide); omega
          · have fc_62 : v_41.toInt ≠ 0 := zf_ne c_62 rfl (by decide)
            refine lv_aload_n hx hb dX8_meant_125 rfl (lv_at hl 1 rfl) ?_
            refine lv_iload hx hb dX8_meant_126 (lv_at hl 5 rfl) ?_
            skip
            refine zw_V (As := [.int v_41]) (rest := []) (wr := [(mhe, .inl (cI, 8, .inl ghe)), (msi, .inl (cI, 8, .inl gsi)), (mce, .inl (cJ, 1280, .inr (.inl gce))), (mki, .inl (cI, 8, .inl gki)), (mpa, .inl (cI, 8, .inl gpa))]) ⟨hx, hb, hml, hown, hts⟩ (c_M_no l D cI cJ cZ cP cS po m0 mrf mki mpa mta mla msl mco mhe mso msi msh mce mca mwo mnu mte mwa mke mma mth mtr (npu) (nte) (nat_) (nde) (nto) (nse) (nhu) (nga) (nsd) (nfa) (nba) (npl) (nen) (nnu) (nwr) (nra) (nik) grf (v_41) hy0 hy1 hy2 hy3 hy4 hy5 hy6 hy7 hy8 hy9 hy10 hy11 hy12 hy13 (by omega) (by omega) H.size) (cwV 1 hts gX8_meant_X8_no rfl rfl rfl ⟨rfl, dh_X8_no⟩ ⟨Nat.le_of_ble_eq_true rfl, Nat.le_of_ble_eq_true rfl⟩) hK hN (hZ.kept hS) hP hD hS hA [0, 1] [2, 3, 4, 5, 6] rfl rfl (by decide) (by decide) (by decide) (va_recv (q := (RX8, TX8, 38)) hK hP (ci := 8) (q0 := 0) rfl rfl) rfl hl.1 rfl (Nat.le_of_ble_eq_true rfl) dX8_meant_128 ⟨Nat.le_of_ble_eq_true rfl, Nat.le_of_ble_eq_true rfl⟩ (fun r_63 u_64 H locs hr_63 hP hD hS => ?_)
            obtain ⟨q_65, rfl⟩ : ∃ z, z = u_64 := ⟨_, rfl⟩
            have h9R := zRe (ws' := [(mhe, .inl (cI, 8, .inl ghe)), (msi, .inl (cI, 8, .inl gsi)), (mce, .inl (cJ, 1280, .inr (.inl gce))), (mki, .inl (cI, 8, .inl gki)), (mpa, .inl (cI, 8, .inl gpa)), (zMO m0 npu nte nat_ nde nto nse nhu nga nsd nfa mrf mki mpa mta mla msl mco mhe mso msi msh mce mca mwo mnu mte nba npl nen nnu nwr mwa mke mma mth mtr nra nik), (mrf, .inl (cI, 8, .inl q_65))]) hP hD rfl
            clear hP hD
            obtain ⟨hP, hD⟩ := h9R
            have w_66 := hr_63
            obtain rfl : v_41 = r_63 := w_66.symm
            exact W.iret (v := v_41) hx hb hr (fun t ht hW => ⟨⟨v_41, q_65, rfl, trivial, zRet ht hP hD [5, 6, 0, 1, 2, 3, 4] (by decide) rfl⟩, hS.F ht⟩) hS.2.2 dX8_meant_131
        · have fc_61 : v_41.toInt = 0 := zf_eq c_61 rfl (by decide)
          refine lv_iload_n hx hb dX8_meant_106 rfl (lv_at hl 4 rfl) ?_
          refine lv_iconst (v := (-1)) hx hb dX8_meant_107 (by decide) ?_
          refine lv_icmp_lt (tgt := 116) hx hb dX8_meant_108 (by decide) (fun c_67 => ?_) (fun c_67 => ?_)
          · have fc_67 : i.toInt < (-1) := zf_lt c_67 rfl (by decide)
            refine lv_bipush (v := (-5)) hx hb dX8_meant_116 (by decide) ?_
            refine lv_istore (lv' := [(4, .int (-5)), (5, .int i_58), (0, .ref m0), (1, .int s_), (2, .int n), (3, .int i)]) hx hb dX8_meant_118 hl (by decide) rfl (fun ls hl => ?_)
            refine lv_iload hx hb dX8_meant_120 (lv_at hl 0 rfl) ?_
            refine lv_if_eq (tgt := 132) hx hb dX8_meant_122 (by decide) (fun c_68 => ?_) (fun c_68 => ?_)
            · exact absurd c_68 (by decide)
            · refine lv_aload_n hx hb dX8_meant_125 rfl (lv_at hl 2 rfl) ?_
              refine lv_iload hx hb dX8_meant_126 (lv_at hl 0 rfl) ?_
              skip
              refine zw_V (As := [.int (-5)]) (rest := []) (wr := [(mhe, .inl (cI, 8, .inl ghe)), (msi, .inl (cI, 8, .inl gsi)), (mce, .inl (cJ, 1280, .inr (.inl gce))), (mki, .inl (cI, 8, .inl gki)), (mpa, .inl (cI, 8, .inl gpa))]) ⟨hx, hb, hml, hown, hts⟩ (c_M_no_5 l D cI cJ cZ cP cS po m0 mrf mki mpa mta mla msl mco mhe mso msi msh mce mca mwo mnu mte mwa mke mma mth mtr (npu) (nte) (nat_) (nde) (nto) (nse) (nhu) (nga) (nsd) (nfa) (nba) (npl) (nen) (nnu) (nwr) (nra) (nik) grf hy0 hy1 hy2 hy3 hy4 hy5 hy6 hy7 hy8 hy9 hy10 hy11 hy12 hy13 H.size) (cwV 1 hts gX8_meant_X8_no rfl rfl rfl ⟨rfl, dh_X8_no⟩ ⟨Nat.le_of_ble_eq_true rfl, Nat.le_of_ble_eq_true rfl⟩) hK hN (hZ.kept hS) hP hD hS hA [0, 1] [2, 3, 4, 5, 6] rfl rfl (by decide) (by decide) (by decide) (va_recv (q := (RX8, TX8, 38)) hK hP (ci := 8) (q0 := 0) rfl rfl) rfl hl.1 rfl (Nat.le_of_ble_eq_true rfl) dX8_meant_128 ⟨Nat.le_of_ble_eq_true rfl, Nat.le_of_ble_eq_true rfl⟩ (fun r_69 u_70 H locs hr_69 hP hD hS => ?_)
              obtain ⟨q_71, rfl⟩ : ∃ z, z = u_70 := ⟨_, rfl⟩
              have h9R := zRe (ws' := [(mhe, .inl (cI, 8, .inl ghe)), (msi, .inl (cI, 8, .inl gsi)), (mce, .inl (cJ, 1280, .inr (.inl gce))), (mki, .inl (cI, 8, .inl gki)), (mpa, .inl (cI, 8, .inl gpa)), (zMO m0 npu nte nat_ nde nto nse nhu nga nsd nfa mrf mki mpa mta mla msl mco mhe mso msi msh mce mca mwo mnu mte nba npl nen nnu nwr mwa mke mma mth mtr nra nik), (mrf, .inl (cI, 8, .inl q_71))]) hP hD rfl
              clear hP hD
              obtain ⟨hP, hD⟩ := h9R
              obtain rfl := hr_69
              exact W.iret (v := (-5)) hx hb hr (fun t ht hW => ⟨⟨(-5), q_71, rfl, trivial, zRet ht hP hD [5, 6, 0, 1, 2, 3, 4] (by decide) rfl⟩, hS.F ht⟩) hS.2.2 dX8_meant_131
          · have fc_67 : (-1) ≤ i.toInt := zf_nlt c_67 rfl (by decide)
            refine lv_iload_n hx hb dX8_meant_111 rfl (lv_at hl 4 rfl) ?_
            refine lv_iload_n hx hb dX8_meant_112 rfl (lv_at hl 3 rfl) ?_
            refine lv_icmp_lt (tgt := 120) hx hb dX8_meant_113 (by decide) (fun c_72 => ?_) (fun c_72 => ?_)
            · have fc_72 : i.toInt < n.toInt := zf_lt c_72 rfl rfl
              refine lv_iload hx hb dX8_meant_120 (lv_at hl 5 rfl) ?_
              refine lv_if_eq (tgt := 132) hx hb dX8_meant_122 (by decide) (fun c_73 => ?_) (fun c_73 => ?_)
              · have fc_73 : v_41.toInt = 0 := zf_eq c_73 rfl (by decide)
                exact hcut132 H locs ls  hP hD hS (lv_sub hl [1, 2, 3, 4] rfl) (by first | omega | assumption | (simp; done) | (simp; omega))
              · exfalso; have fc_73 : v_41.toInt ≠ 0 := zf_ne c_73 rfl (by decide); omega
            · have fc_72 : n.toInt ≤ i.toInt := zf_nlt c_72 rfl rfl
              refine lv_bipush (v := (-5)) hx hb dX8_meant_116 (by decide) ?_
              refine lv_istore (lv' := [(4, .int (-5)), (5, .int i_58), (0, .ref m0), (1, .int s_), (2, .int n), (3, .int i)]) hx hb dX8_meant_118 hl (by decide) rfl (fun ls hl => ?_)
              refine lv_iload hx hb dX8_meant_120 (lv_at hl 0 rfl) ?_
              refine lv_if_eq (tgt := 132) hx hb dX8_meant_122 (by decide) (fun c_74 => ?_) (fun c_74 => ?_)
              · exact absurd c_74 (by decide)
              · refine lv_aload_n hx hb dX8_meant_125 rfl (lv_at hl 2 rfl) ?_
                refine lv_iload hx hb dX8_meant_126 (lv_at hl 0 rfl) ?_
                skip
                refine zw_V (As := [.int (-5)]) (rest := []) (wr := [(mhe, .inl (cI, 8, .inl ghe)), (msi, .inl (cI, 8, .inl gsi)), (mce, .inl (cJ, 1280, .inr (.inl gce))), (mki, .inl (cI, 8, .inl gki)), (mpa, .inl (cI, 8, .inl gpa))]) ⟨hx, hb, hml, hown, hts⟩ (c_M_no_5 l D cI cJ cZ cP cS po m0 mrf mki mpa mta mla msl mco mhe mso msi msh mce mca mwo mnu mte mwa mke mma mth mtr (npu) (nte) (nat_) (nde) (nto) (nse) (nhu) (nga) (nsd) (nfa) (nba) (npl) (nen) (nnu) (nwr) (nra) (nik) grf hy0 hy1 hy2 hy3 hy4 hy5 hy6 hy7 hy8 hy9 hy10 hy11 hy12 hy13 H.size) (cwV 1 hts gX8_meant_X8_no rfl rfl rfl ⟨rfl, dh_X8_no⟩ ⟨Nat.le_of_ble_eq_true rfl, Nat.le_of_ble_eq_true rfl⟩) hK hN (hZ.kept hS) hP hD hS hA [0, 1] [2, 3, 4, 5, 6] rfl rfl (by decide) (by decide) (by decide) (va_recv (q := (RX8, TX8, 38)) hK hP (ci := 8) (q0 := 0) rfl rfl) rfl hl.1 rfl (Nat.le_of_ble_eq_true rfl) dX8_meant_128 ⟨Nat.le_of_ble_eq_true rfl, Nat.le_of_ble_eq_true rfl⟩ (fun r_75 u_76 H locs hr_75 hP hD hS => ?_)
                obtain ⟨q_77, rfl⟩ : ∃ z, z = u_76 := ⟨_, rfl⟩
                have h9R := zRe (ws' := [(mhe, .inl (cI, 8, .inl ghe)), (msi, .inl (cI, 8, .inl gsi)), (mce, .inl (cJ, 1280, .inr (.inl gce))), (mki, .inl (cI, 8, .inl gki)), (mpa, .inl (cI, 8, .inl gpa)), (zMO m0 npu nte nat_ nde nto nse nhu nga nsd nfa mrf mki mpa mta mla msl mco mhe mso msi msh mce mca mwo mnu mte nba npl nen nnu nwr mwa mke mma mth mtr nra nik), (mrf, .inl (cI, 8, .inl q_77))]) hP hD rfl
                clear hP hD
                obtain ⟨hP, hD⟩ := h9R
                obtain rfl := hr_75
                exact W.iret (v := (-5)) hx hb hr (fun t ht hW => ⟨⟨(-5), q_77, rfl, trivial, zRet ht hP hD [5, 6, 0, 1, 2, 3, 4] (by decide) rfl⟩, hS.F ht⟩) hS.2.2 dX8_meant_131
      · have fc_60 : i_58.toInt < n.toInt := zf_nle c_60 rfl rfl
        refine lv_iload hx hb dX8_meant_64 (lv_at hl 5 rfl) ?_
        refine lv_if_ne (tgt := 101) hx hb dX8_meant_66 (by decide) (fun c_78 => ?_) (fun c_78 => ?_)
        · have fc_78 : v_41.toInt ≠ 0 := zf_ne c_78 rfl (by decide)
          refine lv_iload hx hb dX8_meant_101 (lv_at hl 5 rfl) ?_
          refine lv_if_ne (tgt := 120) hx hb dX8_meant_103 (by decide) (fun c_79 => ?_) (fun c_79 => ?_)
          · have fc_79 : v_41.toInt ≠ 0 := zf_ne c_79 rfl (by decide)
            refine lv_iload hx hb dX8_meant_120 (lv_at hl 5 rfl) ?_
            refine lv_if_eq (tgt := 132) hx hb dX8_meant_122 (by decide) (fun c_80 => ?_) (fun c_80 => ?_)
            · exfalso; have fc_80 : v_41.toInt = 0 := zf_eq c_80 rfl (by decide); omega
            · have fc_80 : v_41.toInt ≠ 0 := zf_ne c_80 rfl (by decide)
              refine lv_aload_n hx hb dX8_meant_125 rfl (lv_at hl 1 rfl) ?_
              refine lv_iload hx hb dX8_meant_126 (lv_at hl 5 rfl) ?_
              skip
              refine zw_V (As := [.int v_41]) (rest := []) (wr := [(mhe, .inl (cI, 8, .inl ghe)), (msi, .inl (cI, 8, .inl gsi)), (mce, .inl (cJ, 1280, .inr (.inl gce))), (mki, .inl (cI, 8, .inl gki)), (mpa, .inl (cI, 8, .inl gpa))]) ⟨hx, hb, hml, hown, hts⟩ (c_M_no l D cI cJ cZ cP cS po m0 mrf mki mpa mta mla msl mco mhe mso msi msh mce mca mwo mnu mte mwa mke mma mth mtr (npu) (nte) (nat_) (nde) (nto) (nse) (nhu) (nga) (nsd) (nfa) (nba) (npl) (nen) (nnu) (nwr) (nra) (nik) grf (v_41) hy0 hy1 hy2 hy3 hy4 hy5 hy6 hy7 hy8 hy9 hy10 hy11 hy12 hy13 (by omega) (by omega) H.size) (cwV 1 hts gX8_meant_X8_no rfl rfl rfl ⟨rfl, dh_X8_no⟩ ⟨Nat.le_of_ble_eq_true rfl, Nat.le_of_ble_eq_true rfl⟩) hK hN (hZ.kept hS) hP hD hS hA [0, 1] [2, 3, 4, 5, 6] rfl rfl (by decide) (by decide) (by decide) (va_recv (q := (RX8, TX8, 38)) hK hP (ci := 8) (q0 := 0) rfl rfl) rfl hl.1 rfl (Nat.le_of_ble_eq_true rfl) dX8_meant_128 ⟨Nat.le_of_ble_eq_true rfl, Nat.le_of_ble_eq_true rfl⟩ (fun r_81 u_82 H locs hr_81 hP hD hS => ?_)
              obtain ⟨q_83, rfl⟩ : ∃ z, z = u_82 := ⟨_, rfl⟩
              have h9R := zRe (ws' := [(mhe, .inl (cI, 8, .inl ghe)), (msi, .inl (cI, 8, .inl gsi)), (mce, .inl (cJ, 1280, .inr (.inl gce))), (mki, .inl (cI, 8, .inl gki)), (mpa, .inl (cI, 8, .inl gpa)), (zMO m0 npu nte nat_ nde nto nse nhu nga nsd nfa mrf mki mpa mta mla msl mco mhe mso msi msh mce mca mwo mnu mte nba npl nen nnu nwr mwa mke mma mth mtr nra nik), (mrf, .inl (cI, 8, .inl q_83))]) hP hD rfl
              clear hP hD
              obtain ⟨hP, hD⟩ := h9R
              have w_84 := hr_81
              obtain rfl : v_41 = r_81 := w_84.symm
              exact W.iret (v := v_41) hx hb hr (fun t ht hW => ⟨⟨v_41, q_83, rfl, trivial, zRet ht hP hD [5, 6, 0, 1, 2, 3, 4] (by decide) rfl⟩, hS.F ht⟩) hS.2.2 dX8_meant_131
          · exfalso; have fc_79 : v_41.toInt = 0 := zf_eq c_79 rfl (by decide); omega
        · have fc_78 : v_41.toInt = 0 := zf_eq c_78 rfl (by decide)
          refine lv_aload_n hx hb dX8_meant_69 rfl (lv_at hl 1 rfl) ?_
          refine lv_iload_n hx hb dX8_meant_70 rfl (lv_at hl 2 rfl) ?_
          refine lv_iload hx hb dX8_meant_71 (lv_at hl 0 rfl) ?_
          refine zc_V (As := [.int s_, .int i_58]) (rest := []) ⟨hx, hb, hml, hown, hts⟩ (c_M_intAt l D cI cJ cZ cP cS po m0 mrf mki mpa mta mla msl mco mhe mso msi msh mce mca mwo mnu mte mwa mke mma mth mtr (npu) (nte) (nat_) (nde) (nto) (nse) (nhu) (nga) (nsd) (nfa) (nba) (npl) (nen) (nnu) (nwr) (nra) (nik) gce (s_) (i_58) hy0 hy1 hy2 hy3 hy4 hy5 hy6 hy7 hy8 hy9 hy10 hy11 hy12 hy13 (by omega) (by omega) (by omega) (by omega)) (cwV 2 hts gX8_meant_X8_intAt rfl rfl rfl ⟨rfl, dh_X8_intAt⟩ ⟨Nat.le_of_ble_eq_true rfl, Nat.le_of_ble_eq_true rfl⟩) hK hN (hZ.kept hS) hP (hP.sub [0, 4] rfl) (va_recv (q := (RX8, TX8, 38)) hK hP (ci := 8) (q0 := 0) rfl rfl) rfl hl.1 rfl (Nat.le_of_ble_eq_true rfl) dX8_meant_73 ⟨Nat.le_of_ble_eq_true rfl, Nat.le_of_ble_eq_true rfl⟩ (fun r_85 hr_85 => ?_)
          refine lv_if_lt (tgt := 91) hx hb dX8_meant_76 (by decide) (fun c_86 => ?_) (fun c_86 => ?_)
          · have fc_86 : r_85.toInt < 0 := zf_lt c_86 rfl (by decide)
            refine lv_bipush (v := (-6)) hx hb dX8_meant_91 (by decide) ?_
            refine lv_istore (lv' := [(4, .int (-6)), (5, .int i_58), (0, .ref m0), (1, .int s_), (2, .int n), (3, .int i)]) hx hb dX8_meant_93 hl (by decide) rfl (fun ls hl => ?_)
            obtain ⟨x_87, ex_87⟩ : ∃ y : Int32, y = i_58 + 1 := ⟨_, rfl⟩
            have qx_87 : x_87.toInt = i_58.toInt + 1 := dw_inc ex_87 fc_60
            refine lv_iinc (v := x_87) (lv' := [(5, .int x_87), (4, .int (-6)), (0, .ref m0), (1, .int s_), (2, .int n), (3, .int i)]) hx hb dX8_meant_95 hl (k := 1) rfl ex_87.symm (by decide) rfl (fun ls hl => ?_)
            refine lv_goto (tgt := 58) hx hb dX8_meant_98 (by decide) ?_
            exact ih x_87 (-6) _ _ _ (hP.sub [0, 1, 2, 3, 4, 5, 6] rfl) (hD.sub [0, 1, 2, 3, 4, 5, 6] (by decide) rfl) hS (lv_sub hl [0, 2, 3, 4, 5, 1] rfl) ⟨by decide, by decide⟩ (show (((-6) : Int32).toInt = 0 → (0 ≤ s_.toInt ∧ s_.toInt ≤ 7) ∧ 1 ≤ n.toInt ∧ n.toInt ≤ 20) from by first | omega | exact fun h => absurd h (by decide)) (dw_lo hloi_58 qx_87) (dw_hn hni_58 qx_87)
          · have fc_86 : 0 ≤ r_85.toInt := zf_nlt c_86 rfl (by decide)
            refine lv_aload_n hx hb dX8_meant_79 rfl (lv_at hl 1 rfl) ?_
            refine lv_iload_n hx hb dX8_meant_80 rfl (lv_at hl 2 rfl) ?_
            refine lv_iload hx hb dX8_meant_81 (lv_at hl 0 rfl) ?_
            refine zc_V (As := [.int s_, .int i_58]) (rest := []) ⟨hx, hb, hml, hown, hts⟩ (c_M_intAt l D cI cJ cZ cP cS po m0 mrf mki mpa mta mla msl mco mhe mso msi msh mce mca mwo mnu mte mwa mke mma mth mtr (npu) (nte) (nat_) (nde) (nto) (nse) (nhu) (nga) (nsd) (nfa) (nba) (npl) (nen) (nnu) (nwr) (nra) (nik) gce (s_) (i_58) hy0 hy1 hy2 hy3 hy4 hy5 hy6 hy7 hy8 hy9 hy10 hy11 hy12 hy13 (by omega) (by omega) (by omega) (by omega)) (cwV 2 hts gX8_meant_X8_intAt rfl rfl rfl ⟨rfl, dh_X8_intAt⟩ ⟨Nat.le_of_ble_eq_true rfl, Nat.le_of_ble_eq_true rfl⟩) hK hN (hZ.kept hS) hP (hP.sub [0, 4] rfl) (va_recv (q := (RX8, TX8, 38)) hK hP (ci := 8) (q0 := 0) rfl rfl) rfl hl.1 rfl (Nat.le_of_ble_eq_true rfl) dX8_meant_83 ⟨Nat.le_of_ble_eq_true rfl, Nat.le_of_ble_eq_true rfl⟩ (fun r_88 hr_88 => ?_)
            refine lv_bipush (v := 24) hx hb dX8_meant_86 (by decide) ?_
            refine lv_icmp_le (tgt := 95) hx hb dX8_meant_88 (by decide) (fun c_89 => ?_) (fun c_89 => ?_)
            · have fc_89 : r_88.toInt ≤ 24 := zf_le c_89 rfl (by decide)
              obtain ⟨x_90, ex_90⟩ : ∃ y : Int32, y = i_58 + 1 := ⟨_, rfl⟩
              have qx_90 : x_90.toInt = i_58.toInt + 1 := dw_inc ex_90 fc_60
              refine lv_iinc (v := x_90) (lv' := [(5, .int x_90), (0, .ref m0), (1, .int s_), (2, .int n), (3, .int i), (4, .int v_41)]) hx hb dX8_meant_95 hl (k := 0) rfl ex_90.symm (by decide) rfl (fun ls hl => ?_)
              refine lv_goto (tgt := 58) hx hb dX8_meant_98 (by decide) ?_
              exact ih x_90 v_41 _ _ _ (hP.sub [0, 1, 2, 3, 4, 5, 6] rfl) (hD.sub [0, 1, 2, 3, 4, 5, 6] (by decide) rfl) hS (lv_sub hl [0, 1, 2, 3, 4, 5] rfl) hbv_41 (show ((v_41 : Int32).toInt = 0 → (0 ≤ s_.toInt ∧ s_.toInt ≤ 7) ∧ 1 ≤ n.toInt ∧ n.toInt ≤ 20) from by first | omega | exact fun h => absurd h (by decide)) (dw_lo hloi_58 qx_90) (dw_hn hni_58 qx_90)
            · have fc_89 : 24 < r_88.toInt := zf_nle c_89 rfl (by decide)
              refine lv_bipush (v := (-6)) hx hb dX8_meant_91 (by decide) ?_
              refine lv_istore (lv' := [(4, .int (-6)), (5, .int i_58), (0, .ref m0), (1, .int s_), (2, .int n), (3, .int i)]) hx hb dX8_meant_93 hl (by decide) rfl (fun ls hl => ?_)
              obtain ⟨x_91, ex_91⟩ : ∃ y : Int32, y = i_58 + 1 := ⟨_, rfl⟩
              have qx_91 : x_91.toInt = i_58.toInt + 1 := dw_inc ex_91 fc_60
              refine lv_iinc (v := x_91) (lv' := [(5, .int x_91), (4, .int (-6)), (0, .ref m0), (1, .int s_), (2, .int n), (3, .int i)]) hx hb dX8_meant_95 hl (k := 1) rfl ex_91.symm (by decide) rfl (fun ls hl => ?_)
              refine lv_goto (tgt := 58) hx hb dX8_meant_98 (by decide) ?_
              exact ih x_91 (-6) _ _ _ (hP.sub [0, 1, 2, 3, 4, 5, 6] rfl) (hD.sub [0, 1, 2, 3, 4, 5, 6] (by decide) rfl) hS (lv_sub hl [0, 2, 3, 4, 5, 1] rfl) ⟨by decide, by decide⟩ (show (((-6) : Int32).toInt = 0 → (0 ≤ s_.toInt ∧ s_.toInt ≤ 7) ∧ 1 ≤ n.toInt ∧ n.toInt ≤ 20) from by first | omega | exact fun h => absurd h (by decide)) (dw_lo hloi_58 qx_91) (dw_hn hni_58 qx_91)
  refine lv_aload_n hx hb dX8_meant_0 rfl (lv_at hl 0 rfl) ?_
  refine lv_iload_n hx hb dX8_meant_1 rfl (lv_at hl 1 rfl) ?_
  refine zc_V (As := [.int s_]) (rest := []) ⟨hx, hb, hml, hown, hts⟩ (c_M_wanted l D cI cJ cZ cP cS po m0 mrf mki mpa mta mla msl mco mhe mso msi msh mce mca mwo mnu mte mwa mke mma mth mtr (npu) (nte) (nat_) (nde) (nto) (nse) (nhu) (nga) (nsd) (nfa) (nba) (npl) (nen) (nnu) (nwr) (nra) (nik) ghe (s_) hy0 hy1 hy2 hy3 hy4 hy5 hy6 hy7 hy8 hy9 hy10 hy11 hy12 hy13 hp_ghe) (cwV 1 hts gX8_meant_X8_wanted rfl rfl rfl ⟨rfl, dh_X8_wanted⟩ ⟨Nat.le_of_ble_eq_true rfl, Nat.le_of_ble_eq_true rfl⟩) hK hN (hZ.kept hS) hP (hP.sub [0, 2] rfl) (va_recv (q := (RX8, TX8, 38)) hK hP (ci := 8) (q0 := 0) rfl rfl) rfl hl.1 rfl (Nat.le_of_ble_eq_true rfl) dX8_meant_2 ⟨Nat.le_of_ble_eq_true rfl, Nat.le_of_ble_eq_true rfl⟩ (fun r_92 hr_92 => ?_)
  rcases hr_92 with ⟨rfl, g_93⟩ | ⟨rfl, g_94, g_95⟩ | ⟨rfl, g_96, g_97⟩ | ⟨rfl, g_98, g_99⟩ | ⟨rfl, g_100, g_101⟩
  · refine lv_istore (lv' := [(4, .int (-1)), (0, .ref m0), (1, .int s_), (2, .int n), (3, .int i)]) hx hb dX8_meant_5 hl (by decide) rfl (fun ls hl => ?_)
    refine lv_iload hx hb dX8_meant_7 (lv_at hl 0 rfl) ?_
    refine lv_if_ne (tgt := 55) hx hb dX8_meant_9 (by decide) (fun c_102 => ?_) (fun c_102 => ?_)
    · exact hcut55 H locs ls ((-1) : Int32) hP hD hS (lv_sub hl [1, 2, 3, 4, 0] rfl) (by first | omega | assumption | (simp; done) | (simp; omega)) (by first | omega | assumption | (simp; done) | (simp; omega))
    · exact absurd c_102 (by decide)
  · refine lv_istore (lv' := [(4, .int (-1)), (0, .ref m0), (1, .int s_), (2, .int n), (3, .int i)]) hx hb dX8_meant_5 hl (by decide) rfl (fun ls hl => ?_)
    refine lv_iload hx hb dX8_meant_7 (lv_at hl 0 rfl) ?_
    refine lv_if_ne (tgt := 55) hx hb dX8_meant_9 (by decide) (fun c_103 => ?_) (fun c_103 => ?_)
    · exact hcut55 H locs ls ((-1) : Int32) hP hD hS (lv_sub hl [1, 2, 3, 4, 0] rfl) (by first | omega | assumption | (simp; done) | (simp; omega)) (by first | omega | assumption | (simp; done) | (simp; omega))
    · exact absurd c_103 (by decide)
  · refine lv_istore (lv' := [(4, .int 0), (0, .ref m0), (1, .int s_), (2, .int n), (3, .int i)]) hx hb dX8_meant_5 hl (by decide) rfl (fun ls hl => ?_)
    refine lv_iload hx hb dX8_meant_7 (lv_at hl 0 rfl) ?_
    refine lv_if_ne (tgt := 55) hx hb dX8_meant_9 (by decide) (fun c_104 => ?_) (fun c_104 => ?_)
    · exact absurd c_104 (by decide)
    · refine lv_iload_n hx hb dX8_meant_12 rfl (lv_at hl 3 rfl) ?_
      refine lv_if_ge (tgt := 21) hx hb dX8_meant_13 (by decide) (fun c_105 => ?_) (fun c_105 => ?_)
      · have fc_105 : 0 ≤ n.toInt := zf_le c_105 (by decide) rfl
        refine lv_iload_n hx hb dX8_meant_21 rfl (lv_at hl 3 rfl) ?_
        refine lv_aload_n hx hb dX8_meant_22 rfl (lv_at hl 1 rfl) ?_
        refine va_get (D := D) (ci := 8) (v := .ref msi) (C := RX8) (T := TX8) (N := 38) hx hb hts hi_X8_meant_8 hown hK hP 0 rfl rfl 19 (by decide) (hts (.fieldLink RX8 53 "TheLiningsInItModel" "size" "[I") (List.mem_of_getElem? (i := 1) rfl)) (fun _ h9 => h9) rfl dX8_meant_23 ?_
        refine lv_iload_n hx hb dX8_meant_26 rfl (lv_at hl 2 rfl) ?_
        refine va_iald hx hb hK hP 3 0 rfl rfl (zf_in (by omega) (by omega)) dX8_meant_27 ?_
        refine lv_topi (fun x_106 ex_106 => ?_)
        have bx_106 : 0 ≤ x_106.toInt ∧ x_106.toInt ≤ 160 := by rw [ex_106]; exact hp_gsi _
        refine lv_icmp_le (tgt := 36) hx hb dX8_meant_28 (by decide) (fun c_107 => ?_) (fun c_107 => ?_)
        · have fc_107 : n.toInt ≤ x_106.toInt := zf_le c_107 rfl rfl
          refine lv_iload_n hx hb dX8_meant_36 rfl (lv_at hl 3 rfl) ?_
          refine lv_iconst (v := 1) hx hb dX8_meant_37 (by decide) ?_
          refine lv_icmp_lt (tgt := 47) hx hb dX8_meant_38 (by decide) (fun c_108 => ?_) (fun c_108 => ?_)
          · have fc_108 : n.toInt < 1 := zf_lt c_108 rfl (by decide)
            refine lv_bipush (v := (-6)) hx hb dX8_meant_47 (by decide) ?_
            refine lv_goto (tgt := 53) hx hb dX8_meant_49 (by decide) ?_
            refine lv_istore (lv' := [(4, .int (-6)), (0, .ref m0), (1, .int s_), (2, .int n), (3, .int i)]) hx hb dX8_meant_53 hl (by decide) rfl (fun ls hl => ?_)
            exact hcut55 H locs ls ((-6) : Int32) hP hD hS (lv_sub hl [1, 2, 3, 4, 0] rfl) (by first | omega | assumption | (simp; done) | (simp; omega)) (by first | omega | assumption | (simp; done) | (simp; omega))
          · have fc_108 : 1 ≤ n.toInt := zf_nlt c_108 rfl (by decide)
            refine lv_iload_n hx hb dX8_meant_41 rfl (lv_at hl 3 rfl) ?_
            refine lv_bipush (v := 20) hx hb dX8_meant_42 (by decide) ?_
            refine lv_icmp_le (tgt := 52) hx hb dX8_meant_44 (by decide) (fun c_109 => ?_) (fun c_109 => ?_)
            · have fc_109 : n.toInt ≤ 20 := zf_le c_109 rfl (by decide)
              refine lv_iconst (v := 0) hx hb dX8_meant_52 (by decide) ?_
              refine lv_istore (lv' := [(4, .int 0), (0, .ref m0), (1, .int s_), (2, .int n), (3, .int i)]) hx hb dX8_meant_53 hl (by decide) rfl (fun ls hl => ?_)
              exact hcut55 H locs ls (0 : Int32) hP hD hS (lv_sub hl [1, 2, 3, 4, 0] rfl) (by first | omega | assumption | (simp; done) | (simp; omega)) (by first | omega | assumption | (simp; done) | (simp; omega))
            · have fc_109 : 20 < n.toInt := zf_nle c_109 rfl (by decide)
              refine lv_bipush (v := (-6)) hx hb dX8_meant_47 (by decide) ?_
              refine lv_goto (tgt := 53) hx hb dX8_meant_49 (by decide) ?_
              refine lv_istore (lv' := [(4, .int (-6)), (0, .ref m0), (1, .int s_), (2, .int n), (3, .int i)]) hx hb dX8_meant_53 hl (by decide) rfl (fun ls hl => ?_)
              exact hcut55 H locs ls ((-6) : Int32) hP hD hS (lv_sub hl [1, 2, 3, 4, 0] rfl) (by first | omega | assumption | (simp; done) | (simp; omega)) (by first | omega | assumption | (simp; done) | (simp; omega))
        · have fc_107 : x_106.toInt < n.toInt := zf_nle c_107 rfl rfl
          refine lv_bipush (v := (-5)) hx hb dX8_meant_31 (by decide) ?_
          refine lv_goto (tgt := 53) hx hb dX8_meant_33 (by decide) ?_
          refine lv_istore (lv' := [(4, .int (-5)), (0, .ref m0), (1, .int s_), (2, .int n), (3, .int i)]) hx hb dX8_meant_53 hl (by decide) rfl (fun ls hl => ?_)
          exact hcut55 H locs ls ((-5) : Int32) hP hD hS (lv_sub hl [1, 2, 3, 4, 0] rfl) (by first | omega | assumption | (simp; done) | (simp; omega)) (by first | omega | assumption | (simp; done) | (simp; omega))
      · have fc_105 : n.toInt < 0 := zf_nle c_105 (by decide) rfl
        refine lv_bipush (v := (-4)) hx hb dX8_meant_16 (by decide) ?_
        refine lv_goto (tgt := 53) hx hb dX8_meant_18 (by decide) ?_
        refine lv_istore (lv' := [(4, .int (-4)), (0, .ref m0), (1, .int s_), (2, .int n), (3, .int i)]) hx hb dX8_meant_53 hl (by decide) rfl (fun ls hl => ?_)
        exact hcut55 H locs ls ((-4) : Int32) hP hD hS (lv_sub hl [1, 2, 3, 4, 0] rfl) (by first | omega | assumption | (simp; done) | (simp; omega)) (by first | omega | assumption | (simp; done) | (simp; omega))
  · refine lv_istore (lv' := [(4, .int (-3)), (0, .ref m0), (1, .int s_), (2, .int n), (3, .int i)]) hx hb dX8_meant_5 hl (by decide) rfl (fun ls hl => ?_)
    refine lv_iload hx hb dX8_meant_7 (lv_at hl 0 rfl) ?_
    refine lv_if_ne (tgt := 55) hx hb dX8_meant_9 (by decide) (fun c_110 => ?_) (fun c_110 => ?_)
    · exact hcut55 H locs ls ((-3) : Int32) hP hD hS (lv_sub hl [1, 2, 3, 4, 0] rfl) (by first | omega | assumption | (simp; done) | (simp; omega)) (by first | omega | assumption | (simp; done) | (simp; omega))
    · exact absurd c_110 (by decide)
  · refine lv_istore (lv' := [(4, .int (-2)), (0, .ref m0), (1, .int s_), (2, .int n), (3, .int i)]) hx hb dX8_meant_5 hl (by decide) rfl (fun ls hl => ?_)
    refine lv_iload hx hb dX8_meant_7 (lv_at hl 0 rfl) ?_
    refine lv_if_ne (tgt := 55) hx hb dX8_meant_9 (by decide) (fun c_111 => ?_) (fun c_111 => ?_)
    · exact hcut55 H locs ls ((-2) : Int32) hP hD hS (lv_sub hl [1, 2, 3, 4, 0] rfl) (by first | omega | assumption | (simp; done) | (simp; omega)) (by first | omega | assumption | (simp; done) | (simp; omega))
    · exact absurd c_111 (by decide)
end
section
theorem gl_X8_draw_X80 : GoodIn wsX8_draw wsX80 := (dg_t (dg_t (dg_t gw_wsX80)))
theorem hi_X8_draw_8 : ∀ w ∈ u_ws RX8 TX8 38, w ∈ wsX8_draw := fun w h => (gl_X8_draw_X80 w h).1
set_option maxHeartbeats 4000000 in
set_option maxRecDepth 100000 in
theorem c_M_draw_6 (l : Launch) (D : va_G) (cI cJ cZ cP cS : ClassId) (po : zPool) (m0 mrf mki mpa mta mla msl mco mhe mso msi msh mce mca mwo mnu mte mwa mke mma mth mtr : Nat) (npu nte nat_ nde nto nse nhu nga nsd nfa nba npl nen nnu nwr nra nik : Int32) (hy0 : 0 ≤ npu.toInt) (hy1 : npu.toInt ≤ 8) (hy2 : 4 ≤ nte.toInt) (hy3 : nte.toInt ≤ 40) (hy4 : 0 ≤ nat_.toInt) (hy5 : nat_.toInt ≤ 40) (hy6 : 0 ≤ nde.toInt) (hy7 : nde.toInt ≤ 24) (hy8 : 0 ≤ nhu.toInt) (hy9 : nhu.toInt ≤ 9) (hy10 : 0 ≤ nra.toInt) (hy11 : nra.toInt ≤ 2000) (hy12 : 0 ≤ nik.toInt) (hy13 : nik.toInt ≤ 1) (hpz : Nat) : Met l yX8_draw wsX8_draw ({ frames := 0, cells := 0, slots := 0, locals := 0 }) (va_Pc [.ref m0, .int 6] (zW D (zKT cI cJ cZ cP cS) po [(zMO m0 npu nte nat_ nde nto nse nhu nga nsd nfa mrf mki mpa mta mla msl mco mhe mso msi msh mce mca mwo mnu mte nba npl nen nnu nwr mwa mke mma mth mtr nra nik)] hpz)) (va_Qi (fun (r : Int32) (nsd2 : (Int32)) => 0 ≤ r.toInt ∧ r.toInt ≤ 5) (zB D [(zMO m0 npu nte nat_ nde nto nse nhu nga nsd nfa mrf mki mpa mta mla msl mco mhe mso msi msh mce mca mwo mnu mte nba npl nen nnu nwr mwa mke mma mth mtr nra nik)] hpz (fun (nsd2 : Int32) => [(zMO m0 npu nte nat_ nde nto nse nhu nga nsd2 nfa mrf mki mpa mta mla msl mco mhe mso msi msh mce mca mwo mnu mte nba npl nen nnu nwr mwa mke mma mth mtr nra nik)])) (va_A [(zMO m0 npu nte nat_ nde nto nse nhu nga nsd nfa mrf mki mpa mta mla msl mco mhe mso msi msh mce mca mwo mnu mte nba npl nen nnu nwr mwa mke mma mth mtr nra nik)] hpz)) 0 0 (va_A [(zMO m0 npu nte nat_ nde nto nse nhu nga nsd nfa mrf mki mpa mta mla msl mco mhe mso msi msh mce mca mwo mnu mte nba npl nen nnu nwr mwa mke mma mth mtr nra nik)] hpz) := by
  refine Met.ofW (cc := cX8_draw) (maxL := 2) (ret := (some .int)) (by decide) rfl ?_
  intro p e s m args below meth c s₁ B hml hv
  obtain ⟨rfl, hsz, hP, hK, hD0, hN, hZ⟩ := hv
  have hx := B.exec
  have hb := B.bytes
  have hr := B.returns
  have hts := atoms_spec (ws := wsX8_draw) B.pre
  have hown : s.vm.findClass RX8 = some m.cls := findClass_of_methodNamed B.named
  have hlocks := B.notSynchronized
  subst hsz
  have hD := hD0.self (sz := s.heap.size)
  have hA := zA_of hD
  have hl := lv_entry ([.ref m0, .int 6]) (n := 2) (Nat.le_of_ble_eq_true rfl)
  rw [lg_entry_eq]
  generalize (lg_sl ([.ref m0, .int 6]) ++ List.replicate (2 - (lg_sl ([.ref m0, .int 6])).length) Slot.unset).toArray = ls at hl ⊢
  replace hl : lv_has ls 2 [(0, .ref m0), (1, .int 6)] := hl
  refine zw_begin hP hD (fun H locs hP1 hS => ?_)
  clear hP
  have hP := hP1
  clear hP1
  refine lv_aload_n hx hb dX8_draw_0 rfl (lv_at hl 0 rfl) ?_
  refine lv_aload_n hx hb dX8_draw_1 rfl (lv_at hl 0 rfl) ?_
  refine va_get (D := D) (ci := 8) (v := .int nsd) (C := RX8) (T := TX8) (N := 38) hx hb hts hi_X8_draw_8 hown hK hP 0 rfl rfl 8 (by decide) (hts (.fieldLink RX8 19 "TheLiningsInItModel" "seed" "I") (List.mem_of_getElem? (i := 1) rfl)) (fun _ h9 => h9) rfl dX8_draw_2 ?_
  refine lv_ldcw (own := RX8) (v := 1103515245) hx hb hown (hts _ (List.mem_of_getElem? (i := 2) rfl)) dX8_draw_5 ?_
  refine lv_imul hx hb dX8_draw_8 ?_
  refine lv_topi (fun x_1 ex_1 => ?_)
  refine lv_sipush (v := 12345) hx hb dX8_draw_9 (by decide) ?_
  refine lv_iadd hx hb dX8_draw_12 ?_
  refine lv_topi (fun x_2 ex_2 => ?_)
  refine va_put (D := D) (ci := 8) (v := .int x_2) (ty := .int) (C := RX8) (T := TX8) (N := 38) hx hb hts hi_X8_draw_8 tyX8 tyX8_ok nmX8 hown hK hP hD hS 0 rfl rfl 8 (by decide) (hts (.fieldLink RX8 19 "TheLiningsInItModel" "seed" "I") (List.mem_of_getElem? (i := 1) rfl)) (fun _ h9 => h9) rfl (tyX8_ok 8 (Nat.le_of_ble_eq_true rfl)) rfl rfl (Nat.le_of_ble_eq_true rfl) dX8_draw_13 (fun H locs hP hD hS => ?_)
  have h9R := zRe (ws' := [(zMO m0 npu nte nat_ nde nto nse nhu nga x_2 nfa mrf mki mpa mta mla msl mco mhe mso msi msh mce mca mwo mnu mte nba npl nen nnu nwr mwa mke mma mth mtr nra nik)]) hP hD rfl
  clear hP hD
  obtain ⟨hP, hD⟩ := h9R
  refine lv_aload_n hx hb dX8_draw_16 rfl (lv_at hl 0 rfl) ?_
  refine va_get (D := D) (ci := 8) (v := .int x_2) (C := RX8) (T := TX8) (N := 38) hx hb hts hi_X8_draw_8 hown hK hP 0 rfl rfl 8 (by decide) (hts (.fieldLink RX8 19 "TheLiningsInItModel" "seed" "I") (List.mem_of_getElem? (i := 1) rfl)) (fun _ h9 => h9) rfl dX8_draw_17 ?_
  refine lv_bipush (v := 16) hx hb dX8_draw_20 (by decide) ?_
  refine lv_iushr hx hb dX8_draw_22 rfl ?_
  refine lv_topi (fun x_3 ex_3 => ?_)
  have bx_3 : 0 ≤ x_3.toInt ∧ x_3.toInt ≤ 65535 := by rw [ex_3]; exact zf_ushr
  refine lv_iload_n hx hb dX8_draw_23 rfl (lv_at hl 1 rfl) ?_
  refine lv_irem hx hb dX8_draw_24 (by decide) ?_
  refine lv_topi (fun x_4 ex_4 => ?_)
  have qx_4 : x_4.toInt = x_3.toInt - x_3.toInt / 6 * 6 := by rw [ex_4]; exact zf_rem rfl (by decide) (by omega) (by omega)
  exact W.iret (v := x_4) hx hb hr (fun t ht hW => ⟨⟨x_4, x_2, rfl, ⟨by omega, by omega⟩, zRet ht hP hD [0] (by decide) rfl⟩, hS.F ht⟩) hS.2.2 dX8_draw_25
set_option maxHeartbeats 4000000 in
set_option maxRecDepth 100000 in
theorem c_M_draw_10 (l : Launch) (D : va_G) (cI cJ cZ cP cS : ClassId) (po : zPool) (m0 mrf mki mpa mta mla msl mco mhe mso msi msh mce mca mwo mnu mte mwa mke mma mth mtr : Nat) (npu nte nat_ nde nto nse nhu nga nsd nfa nba npl nen nnu nwr nra nik : Int32) (hy0 : 0 ≤ npu.toInt) (hy1 : npu.toInt ≤ 8) (hy2 : 4 ≤ nte.toInt) (hy3 : nte.toInt ≤ 40) (hy4 : 0 ≤ nat_.toInt) (hy5 : nat_.toInt ≤ 40) (hy6 : 0 ≤ nde.toInt) (hy7 : nde.toInt ≤ 24) (hy8 : 0 ≤ nhu.toInt) (hy9 : nhu.toInt ≤ 9) (hy10 : 0 ≤ nra.toInt) (hy11 : nra.toInt ≤ 2000) (hy12 : 0 ≤ nik.toInt) (hy13 : nik.toInt ≤ 1) (hpz : Nat) : Met l yX8_draw wsX8_draw ({ frames := 0, cells := 0, slots := 0, locals := 0 }) (va_Pc [.ref m0, .int 10] (zW D (zKT cI cJ cZ cP cS) po [(zMO m0 npu nte nat_ nde nto nse nhu nga nsd nfa mrf mki mpa mta mla msl mco mhe mso msi msh mce mca mwo mnu mte nba npl nen nnu nwr mwa mke mma mth mtr nra nik)] hpz)) (va_Qi (fun (r : Int32) (nsd2 : (Int32)) => 0 ≤ r.toInt ∧ r.toInt ≤ 9) (zB D [(zMO m0 npu nte nat_ nde nto nse nhu nga nsd nfa mrf mki mpa mta mla msl mco mhe mso msi msh mce mca mwo mnu mte nba npl nen nnu nwr mwa mke mma mth mtr nra nik)] hpz (fun (nsd2 : Int32) => [(zMO m0 npu nte nat_ nde nto nse nhu nga nsd2 nfa mrf mki mpa mta mla msl mco mhe mso msi msh mce mca mwo mnu mte nba npl nen nnu nwr mwa mke mma mth mtr nra nik)])) (va_A [(zMO m0 npu nte nat_ nde nto nse nhu nga nsd nfa mrf mki mpa mta mla msl mco mhe mso msi msh mce mca mwo mnu mte nba npl nen nnu nwr mwa mke mma mth mtr nra nik)] hpz)) 0 0 (va_A [(zMO m0 npu nte nat_ nde nto nse nhu nga nsd nfa mrf mki mpa mta mla msl mco mhe mso msi msh mce mca mwo mnu mte nba npl nen nnu nwr mwa mke mma mth mtr nra nik)] hpz) := by
  refine Met.ofW (cc := cX8_draw) (maxL := 2) (ret := (some .int)) (by decide) rfl ?_
  intro p e s m args below meth c s₁ B hml hv
  obtain ⟨rfl, hsz, hP, hK, hD0, hN, hZ⟩ := hv
  have hx := B.exec
  have hb := B.bytes
  have hr := B.returns
  have hts := atoms_spec (ws := wsX8_draw) B.pre
  have hown : s.vm.findClass RX8 = some m.cls := findClass_of_methodNamed B.named
  have hlocks := B.notSynchronized
  subst hsz
  have hD := hD0.self (sz := s.heap.size)
  have hA := zA_of hD
  have hl := lv_entry ([.ref m0, .int 10]) (n := 2) (Nat.le_of_ble_eq_true rfl)
  rw [lg_entry_eq]
  generalize (lg_sl ([.ref m0, .int 10]) ++ List.replicate (2 - (lg_sl ([.ref m0, .int 10])).length) Slot.unset).toArray = ls at hl ⊢
  replace hl : lv_has ls 2 [(0, .ref m0), (1, .int 10)] := hl
  refine zw_begin hP hD (fun H locs hP1 hS => ?_)
  clear hP
  have hP := hP1
  clear hP1
  refine lv_aload_n hx hb dX8_draw_0 rfl (lv_at hl 0 rfl) ?_
  refine lv_aload_n hx hb dX8_draw_1 rfl (lv_at hl 0 rfl) ?_
  refine va_get (D := D) (ci := 8) (v := .int nsd) (C := RX8) (T := TX8) (N := 38) hx hb hts hi_X8_draw_8 hown hK hP 0 rfl rfl 8 (by decide) (hts (.fieldLink RX8 19 "TheLiningsInItModel" "seed" "I") (List.mem_of_getElem? (i := 1) rfl)) (fun _ h9 => h9) rfl dX8_draw_2 ?_
  refine lv_ldcw (own := RX8) (v := 1103515245) hx hb hown (hts _ (List.mem_of_getElem? (i := 2) rfl)) dX8_draw_5 ?_
  refine lv_imul hx hb dX8_draw_8 ?_
  refine lv_topi (fun x_1 ex_1 => ?_)
  refine lv_sipush (v := 12345) hx hb dX8_draw_9 (by decide) ?_
  refine lv_iadd hx hb dX8_draw_12 ?_
  refine lv_topi (fun x_2 ex_2 => ?_)
  refine va_put (D := D) (ci := 8) (v := .int x_2) (ty := .int) (C := RX8) (T := TX8) (N := 38) hx hb hts hi_X8_draw_8 tyX8 tyX8_ok nmX8 hown hK hP hD hS 0 rfl rfl 8 (by decide) (hts (.fieldLink RX8 19 "TheLiningsInItModel" "seed" "I") (List.mem_of_getElem? (i := 1) rfl)) (fun _ h9 => h9) rfl (tyX8_ok 8 (Nat.le_of_ble_eq_true rfl)) rfl rfl (Nat.le_of_ble_eq_true rfl) dX8_draw_13 (fun H locs hP hD hS => ?_)
  have h9R := zRe (ws' := [(zMO m0 npu nte nat_ nde nto nse nhu nga x_2 nfa mrf mki mpa mta mla msl mco mhe mso msi msh mce mca mwo mnu mte nba npl nen nnu nwr mwa mke mma mth mtr nra nik)]) hP hD rfl
  clear hP hD
  obtain ⟨hP, hD⟩ := h9R
  refine lv_aload_n hx hb dX8_draw_16 rfl (lv_at hl 0 rfl) ?_
  refine va_get (D := D) (ci := 8) (v := .int x_2) (C := RX8) (T := TX8) (N := 38) hx hb hts hi_X8_draw_8 hown hK hP 0 rfl rfl 8 (by decide) (hts (.fieldLink RX8 19 "TheLiningsInItModel" "seed" "I") (List.mem_of_getElem? (i := 1) rfl)) (fun _ h9 => h9) rfl dX8_draw_17 ?_
  refine lv_bipush (v := 16) hx hb dX8_draw_20 (by decide) ?_
  refine lv_iushr hx hb dX8_draw_22 rfl ?_
  refine lv_topi (fun x_3 ex_3 => ?_)
  have bx_3 : 0 ≤ x_3.toInt ∧ x_3.toInt ≤ 65535 := by rw [ex_3]; exact zf_ushr
  refine lv_iload_n hx hb dX8_draw_23 rfl (lv_at hl 1 rfl) ?_
  refine lv_irem hx hb dX8_draw_24 (by decide) ?_
  refine lv_topi (fun x_4 ex_4 => ?_)
  have qx_4 : x_4.toInt = x_3.toInt - x_3.toInt / 10 * 10 := by rw [ex_4]; exact zf_rem rfl (by decide) (by omega) (by omega)
  exact W.iret (v := x_4) hx hb hr (fun t ht hW => ⟨⟨x_4, x_2, rfl, ⟨by omega, by omega⟩, zRet ht hP hD [0] (by decide) rfl⟩, hS.F ht⟩) hS.2.2 dX8_draw_25
set_option maxHeartbeats 4000000 in
set_option maxRecDepth 100000 in
theorem c_M_draw_12 (l : Launch) (D : va_G) (cI cJ cZ cP cS : ClassId) (po : zPool) (m0 mrf mki mpa mta mla msl mco mhe mso msi msh mce mca mwo mnu mte mwa mke mma mth mtr : Nat) (npu nte nat_ nde nto nse nhu nga nsd nfa nba npl nen nnu nwr nra nik : Int32) (hy0 : 0 ≤ npu.toInt) (hy1 : npu.toInt ≤ 8) (hy2 : 4 ≤ nte.toInt) (hy3 : nte.toInt ≤ 40) (hy4 : 0 ≤ nat_.toInt) (hy5 : nat_.toInt ≤ 40) (hy6 : 0 ≤ nde.toInt) (hy7 : nde.toInt ≤ 24) (hy8 : 0 ≤ nhu.toInt) (hy9 : nhu.toInt ≤ 9) (hy10 : 0 ≤ nra.toInt) (hy11 : nra.toInt ≤ 2000) (hy12 : 0 ≤ nik.toInt) (hy13 : nik.toInt ≤ 1) (hpz : Nat) : Met l yX8_draw wsX8_draw ({ frames := 0, cells := 0, slots := 0, locals := 0 }) (va_Pc [.ref m0, .int 12] (zW D (zKT cI cJ cZ cP cS) po [(zMO m0 npu nte nat_ nde nto nse nhu nga nsd nfa mrf mki mpa mta mla msl mco mhe mso msi msh mce mca mwo mnu mte nba npl nen nnu nwr mwa mke mma mth mtr nra nik)] hpz)) (va_Qi (fun (r : Int32) (nsd2 : (Int32)) => 0 ≤ r.toInt ∧ r.toInt ≤ 11) (zB D [(zMO m0 npu nte nat_ nde nto nse nhu nga nsd nfa mrf mki mpa mta mla msl mco mhe mso msi msh mce mca mwo mnu mte nba npl nen nnu nwr mwa mke mma mth mtr nra nik)] hpz (fun (nsd2 : Int32) => [(zMO m0 npu nte nat_ nde nto nse nhu nga nsd2 nfa mrf mki mpa mta mla msl mco mhe mso msi msh mce mca mwo mnu mte nba npl nen nnu nwr mwa mke mma mth mtr nra nik)])) (va_A [(zMO m0 npu nte nat_ nde nto nse nhu nga nsd nfa mrf mki mpa mta mla msl mco mhe mso msi msh mce mca mwo mnu mte nba npl nen nnu nwr mwa mke mma mth mtr nra nik)] hpz)) 0 0 (va_A [(zMO m0 npu nte nat_ nde nto nse nhu nga nsd nfa mrf mki mpa mta mla msl mco mhe mso msi msh mce mca mwo mnu mte nba npl nen nnu nwr mwa mke mma mth mtr nra nik)] hpz) := by
  refine Met.ofW (cc := cX8_draw) (maxL := 2) (ret := (some .int)) (by decide) rfl ?_
  intro p e s m args below meth c s₁ B hml hv
  obtain ⟨rfl, hsz, hP, hK, hD0, hN, hZ⟩ := hv
  have hx := B.exec
  have hb := B.bytes
  have hr := B.returns
  have hts := atoms_spec (ws := wsX8_draw) B.pre
  have hown : s.vm.findClass RX8 = some m.cls := findClass_of_methodNamed B.named
  have hlocks := B.notSynchronized
  subst hsz
  have hD := hD0.self (sz := s.heap.size)
  have hA := zA_of hD
  have hl := lv_entry ([.ref m0, .int 12]) (n := 2) (Nat.le_of_ble_eq_true rfl)
  rw [lg_entry_eq]
  generalize (lg_sl ([.ref m0, .int 12]) ++ List.replicate (2 - (lg_sl ([.ref m0, .int 12])).length) Slot.unset).toArray = ls at hl ⊢
  replace hl : lv_has ls 2 [(0, .ref m0), (1, .int 12)] := hl
  refine zw_begin hP hD (fun H locs hP1 hS => ?_)
  clear hP
  have hP := hP1
  clear hP1
  refine lv_aload_n hx hb dX8_draw_0 rfl (lv_at hl 0 rfl) ?_
  refine lv_aload_n hx hb dX8_draw_1 rfl (lv_at hl 0 rfl) ?_
  refine va_get (D := D) (ci := 8) (v := .int nsd) (C := RX8) (T := TX8) (N := 38) hx hb hts hi_X8_draw_8 hown hK hP 0 rfl rfl 8 (by decide) (hts (.fieldLink RX8 19 "TheLiningsInItModel" "seed" "I") (List.mem_of_getElem? (i := 1) rfl)) (fun _ h9 => h9) rfl dX8_draw_2 ?_
  refine lv_ldcw (own := RX8) (v := 1103515245) hx hb hown (hts _ (List.mem_of_getElem? (i := 2) rfl)) dX8_draw_5 ?_
  refine lv_imul hx hb dX8_draw_8 ?_
  refine lv_topi (fun x_1 ex_1 => ?_)
  refine lv_sipush (v := 12345) hx hb dX8_draw_9 (by decide) ?_
  refine lv_iadd hx hb dX8_draw_12 ?_
  refine lv_topi (fun x_2 ex_2 => ?_)
  refine va_put (D := D) (ci := 8) (v := .int x_2) (ty := .int) (C := RX8) (T := TX8) (N := 38) hx hb hts hi_X8_draw_8 tyX8 tyX8_ok nmX8 hown hK hP hD hS 0 rfl rfl 8 (by decide) (hts (.fieldLink RX8 19 "TheLiningsInItModel" "seed" "I") (List.mem_of_getElem? (i := 1) rfl)) (fun _ h9 => h9) rfl (tyX8_ok 8 (Nat.le_of_ble_eq_true rfl)) rfl rfl (Nat.le_of_ble_eq_true rfl) dX8_draw_13 (fun H locs hP hD hS => ?_)
  have h9R := zRe (ws' := [(zMO m0 npu nte nat_ nde nto nse nhu nga x_2 nfa mrf mki mpa mta mla msl mco mhe mso msi msh mce mca mwo mnu mte nba npl nen nnu nwr mwa mke mma mth mtr nra nik)]) hP hD rfl
  clear hP hD
  obtain ⟨hP, hD⟩ := h9R
  refine lv_aload_n hx hb dX8_draw_16 rfl (lv_at hl 0 rfl) ?_
  refine va_get (D := D) (ci := 8) (v := .int x_2) (C := RX8) (T := TX8) (N := 38) hx hb hts hi_X8_draw_8 hown hK hP 0 rfl rfl 8 (by decide) (hts (.fieldLink RX8 19 "TheLiningsInItModel" "seed" "I") (List.mem_of_getElem? (i := 1) rfl)) (fun _ h9 => h9) rfl dX8_draw_17 ?_
  refine lv_bipush (v := 16) hx hb dX8_draw_20 (by decide) ?_
  refine lv_iushr hx hb dX8_draw_22 rfl ?_
  refine lv_topi (fun x_3 ex_3 => ?_)
  have bx_3 : 0 ≤ x_3.toInt ∧ x_3.toInt ≤ 65535 := by rw [ex_3]; exact zf_ushr
  refine lv_iload_n hx hb dX8_draw_23 rfl (lv_at hl 1 rfl) ?_
  refine lv_irem hx hb dX8_draw_24 (by decide) ?_
  refine lv_topi (fun x_4 ex_4 => ?_)
  have qx_4 : x_4.toInt = x_3.toInt - x_3.toInt / 12 * 12 := by rw [ex_4]; exact zf_rem rfl (by decide) (by omega) (by omega)
  exact W.iret (v := x_4) hx hb hr (fun t ht hW => ⟨⟨x_4, x_2, rfl, ⟨by omega, by omega⟩, zRet ht hP hD [0] (by decide) rfl⟩, hS.F ht⟩) hS.2.2 dX8_draw_25
theorem hi_X8_makes_8 : ∀ w ∈ u_ws RX8 TX8 38, w ∈ wsX8_makes := fun w h => (gl_X8_makes_X80 w h).1
set_option maxHeartbeats 4000000 in
set_option maxRecDepth 100000 in
theorem c_M_makes (l : Launch) (D : va_G) (cI cJ cZ cP cS : ClassId) (po : zPool) (m0 mrf mki mpa mta mla msl mco mhe mso msi msh mce mca mwo mnu mte mwa mke mma mth mtr : Nat) (npu nte nat_ nde nto nse nhu nga nsd nfa nba npl nen nnu nwr nra nik : Int32) (gki gpa gta : Nat → Int32) (p_ : Int32) (hy0 : 0 ≤ npu.toInt) (hy1 : npu.toInt ≤ 8) (hy2 : 4 ≤ nte.toInt) (hy3 : nte.toInt ≤ 40) (hy4 : 0 ≤ nat_.toInt) (hy5 : nat_.toInt ≤ 40) (hy6 : 0 ≤ nde.toInt) (hy7 : nde.toInt ≤ 24) (hy8 : 0 ≤ nhu.toInt) (hy9 : nhu.toInt ≤ 9) (hy10 : 0 ≤ nra.toInt) (hy11 : nra.toInt ≤ 2000) (hy12 : 0 ≤ nik.toInt) (hy13 : nik.toInt ≤ 1) (hy14 : 0 ≤ p_.toInt) (hy15 : p_.toInt ≤ 7) (hp_gki : zRg gki (0) 6) (hp_gpa : zRg gpa (0) 9) (hp_gta : zRg gta (0) 60) (hpz : Nat) : Met l yX8_makes wsX8_makes ({ frames := 2, cells := 0, slots := 0, locals := 45 }) (va_Pc [.ref m0, .int p_] (zW D (zKT cI cJ cZ cP cS) po [(zMO m0 npu nte nat_ nde nto nse nhu nga nsd nfa mrf mki mpa mta mla msl mco mhe mso msi msh mce mca mwo mnu mte nba npl nen nnu nwr mwa mke mma mth mtr nra nik), (mki, .inl (cI, 8, .inl gki)), (mpa, .inl (cI, 8, .inl gpa)), (mta, .inl (cI, 8, .inl gta))] hpz)) (va_Qv (fun (u : (Int32) × (Int32) × (Int32) × (Int32)) => (0 ≤ u.1.toInt ∧ u.1.toInt ≤ 24) ∧ (True)) (zB D [(zMO m0 npu nte nat_ nde nto nse nhu nga nsd nfa mrf mki mpa mta mla msl mco mhe mso msi msh mce mca mwo mnu mte nba npl nen nnu nwr mwa mke mma mth mtr nra nik), (mki, .inl (cI, 8, .inl gki)), (mpa, .inl (cI, 8, .inl gpa)), (mta, .inl (cI, 8, .inl gta))] hpz (fun (u : (Int32) × (Int32) × (Int32) × (Int32)) => [(zMO m0 npu nte nat_ u.1 u.2.1 u.2.2.1 nhu nga u.2.2.2 nfa mrf mki mpa mta mla msl mco mhe mso msi msh mce mca mwo mnu mte nba npl nen nnu nwr mwa mke mma mth mtr nra nik), (mki, .inl (cI, 8, .inl gki)), (mpa, .inl (cI, 8, .inl gpa)), (mta, .inl (cI, 8, .inl gta))])) (va_A [(zMO m0 npu nte nat_ nde nto nse nhu nga nsd nfa mrf mki mpa mta mla msl mco mhe mso msi msh mce mca mwo mnu mte nba npl nen nnu nwr mwa mke mma mth mtr nra nik), (mki, .inl (cI, 8, .inl gki)), (mpa, .inl (cI, 8, .inl gpa)), (mta, .inl (cI, 8, .inl gta))] hpz)) 0 0 (va_A [(zMO m0 npu nte nat_ nde nto nse nhu nga nsd nfa mrf mki mpa mta mla msl mco mhe mso msi msh mce mca mwo mnu mte nba npl nen nnu nwr mwa mke mma mth mtr nra nik), (mki, .inl (cI, 8, .inl gki)), (mpa, .inl (cI, 8, .inl gpa)), (mta, .inl (cI, 8, .inl gta))] hpz) := by
  refine Met.ofW (cc := cX8_makes) (maxL := 3) (ret := none) (by decide) rfl ?_
  intro p e s m args below meth c s₁ B hml hv
  obtain ⟨rfl, hsz, hP, hK, hD0, hN, hZ⟩ := hv
  have hx := B.exec
  have hb := B.bytes
  have hr := B.returns
  have hts := atoms_spec (ws := wsX8_makes) B.pre
  have hown : s.vm.findClass RX8 = some m.cls := findClass_of_methodNamed B.named
  have hlocks := B.notSynchronized
  subst hsz
  have hD := hD0.self (sz := s.heap.size)
  have hA := zA_of hD
  have hl := lv_entry ([.ref m0, .int p_]) (n := 3) (Nat.le_of_ble_eq_true rfl)
  rw [lg_entry_eq]
  generalize (lg_sl ([.ref m0, .int p_]) ++ List.replicate (3 - (lg_sl ([.ref m0, .int p_])).length) Slot.unset).toArray = ls at hl ⊢
  replace hl : lv_has ls 3 [(0, .ref m0), (1, .int p_)] := hl
  refine zw_begin hP hD (fun H locs hP1 hS => ?_)
  clear hP
  have hP := hP1
  clear hP1
  refine lv_aload_n hx hb dX8_makes_0 rfl (lv_at hl 0 rfl) ?_
  refine lv_bipush (v := 12) hx hb dX8_makes_1 (by decide) ?_
  skip
  refine zw_V (As := [.int 12]) (rest := []) (wr := [(mki, .inl (cI, 8, .inl gki)), (mpa, .inl (cI, 8, .inl gpa)), (mta, .inl (cI, 8, .inl gta))]) ⟨hx, hb, hml, hown, hts⟩ (c_M_draw_12 l D cI cJ cZ cP cS po m0 mrf mki mpa mta mla msl mco mhe mso msi msh mce mca mwo mnu mte mwa mke mma mth mtr (npu) (nte) (nat_) (nde) (nto) (nse) (nhu) (nga) (nsd) (nfa) (nba) (npl) (nen) (nnu) (nwr) (nra) (nik) hy0 hy1 hy2 hy3 hy4 hy5 hy6 hy7 hy8 hy9 hy10 hy11 hy12 hy13 H.size) (cwV 1 hts gX8_makes_X8_draw rfl rfl rfl ⟨rfl, dh_X8_draw⟩ ⟨Nat.le_of_ble_eq_true rfl, Nat.le_of_ble_eq_true rfl⟩) hK hN (hZ.kept hS) hP hD hS hA [0] [1, 2, 3] rfl rfl (by decide) (by decide) (by decide) (va_recv (q := (RX8, TX8, 38)) hK hP (ci := 8) (q0 := 0) rfl rfl) rfl hl.1 rfl (Nat.le_of_ble_eq_true rfl) dX8_makes_3 ⟨Nat.le_of_ble_eq_true rfl, Nat.le_of_ble_eq_true rfl⟩ (fun r_1 u_2 H locs hr_1 hP hD hS => ?_)
  obtain ⟨q_3, rfl⟩ : ∃ z, z = u_2 := ⟨_, rfl⟩
  have h9R := zRe (ws' := [(mki, .inl (cI, 8, .inl gki)), (mpa, .inl (cI, 8, .inl gpa)), (mta, .inl (cI, 8, .inl gta)), (zMO m0 npu nte nat_ nde nto nse nhu nga q_3 nfa mrf mki mpa mta mla msl mco mhe mso msi msh mce mca mwo mnu mte nba npl nen nnu nwr mwa mke mma mth mtr nra nik)]) hP hD rfl
  clear hP hD
  obtain ⟨hP, hD⟩ := h9R
  obtain ⟨g_4, g_5⟩ := hr_1
  refine lv_aload_n hx hb dX8_makes_6 rfl (lv_at hl 0 rfl) ?_
  refine lv_iload_n hx hb dX8_makes_7 rfl (lv_at hl 1 rfl) ?_
  refine lv_aload_n hx hb dX8_makes_8 rfl (lv_at hl 0 rfl) ?_
  refine va_get (D := D) (ci := 8) (v := .int nde) (C := RX8) (T := TX8) (N := 38) hx hb hts hi_X8_makes_8 hown hK hP 3 rfl rfl 3 (by decide) (hts (.fieldLink RX8 115 "TheLiningsInItModel" "depth" "I") (List.mem_of_getElem? (i := 1) rfl)) (fun _ h9 => h9) rfl dX8_makes_9 ?_
  refine zc_V (As := [.int p_, .int nde]) (rest := [.int r_1]) ⟨hx, hb, hml, hown, hts⟩ (c_M_ways l D cI cJ cZ cP cS po m0 mrf mki mpa mta mla msl mco mhe mso msi msh mce mca mwo mnu mte mwa mke mma mth mtr (npu) (nte) (nat_) (nde) (nto) (nse) (nhu) (nga) (q_3) (nfa) (nba) (npl) (nen) (nnu) (nwr) (nra) (nik) gki gpa (p_) (nde) hy0 hy1 hy2 hy3 hy4 hy5 hy6 hy7 hy8 hy9 hy10 hy11 hy12 hy13 hy14 hy15 hp_gki hp_gpa) (cwV 2 hts gX8_makes_X8_ways rfl rfl rfl ⟨rfl, dh_X8_ways⟩ ⟨Nat.le_of_ble_eq_true rfl, Nat.le_of_ble_eq_true rfl⟩) hK hN (hZ.kept hS) hP (hP.sub [3, 0, 1] rfl) (va_recv (q := (RX8, TX8, 38)) hK hP (ci := 8) (q0 := 3) rfl rfl) rfl hl.1 rfl (Nat.le_of_ble_eq_true rfl) dX8_makes_12 ⟨Nat.le_of_ble_eq_true rfl, Nat.le_of_ble_eq_true rfl⟩ (fun r_6 hr_6 => ?_)
  obtain ⟨g_7, g_8⟩ := hr_6
  refine lv_icmp_ge (tgt := 22) hx hb dX8_makes_15 (by decide) (fun c_9 => ?_) (fun c_9 => ?_)
  · have fc_9 : r_6.toInt ≤ r_1.toInt := zf_le c_9 rfl rfl
    refine lv_iconst (v := 0) hx hb dX8_makes_22 (by decide) ?_
    refine lv_istore_n (lv' := [(2, .int 0), (0, .ref m0), (1, .int p_)]) hx hb dX8_makes_23 rfl hl (by decide) rfl (fun ls hl => ?_)
    refine lv_aload_n hx hb dX8_makes_24 rfl (lv_at hl 1 rfl) ?_
    refine lv_aload_n hx hb dX8_makes_25 rfl (lv_at hl 1 rfl) ?_
    refine lv_iload_n hx hb dX8_makes_26 rfl (lv_at hl 2 rfl) ?_
    refine lv_aload_n hx hb dX8_makes_27 rfl (lv_at hl 1 rfl) ?_
    refine va_get (D := D) (ci := 8) (v := .int nde) (C := RX8) (T := TX8) (N := 38) hx hb hts hi_X8_makes_8 hown hK hP 3 rfl rfl 3 (by decide) (hts (.fieldLink RX8 115 "TheLiningsInItModel" "depth" "I") (List.mem_of_getElem? (i := 1) rfl)) (fun _ h9 => h9) rfl dX8_makes_28 ?_
    refine lv_iload_n hx hb dX8_makes_31 rfl (lv_at hl 0 rfl) ?_
    refine zc_V (As := [.int p_, .int nde, .int 0]) (rest := [.ref m0]) ⟨hx, hb, hml, hown, hts⟩ (c_M_deep l D cI cJ cZ cP cS po m0 mrf mki mpa mta mla msl mco mhe mso msi msh mce mca mwo mnu mte mwa mke mma mth mtr (npu) (nte) (nat_) (nde) (nto) (nse) (nhu) (nga) (q_3) (nfa) (nba) (npl) (nen) (nnu) (nwr) (nra) (nik) gki gpa (p_) (nde) (0) hy0 hy1 hy2 hy3 hy4 hy5 hy6 hy7 hy8 hy9 hy10 hy11 hy12 hy13 hy14 hy15 hy6 hy7 hp_gki hp_gpa) (cwV 3 hts gX8_makes_X8_deep rfl rfl rfl ⟨rfl, dh_X8_deep⟩ ⟨Nat.le_of_ble_eq_true rfl, Nat.le_of_ble_eq_true rfl⟩) hK hN (hZ.kept hS) hP (hP.sub [3, 0, 1] rfl) (va_recv (q := (RX8, TX8, 38)) hK hP (ci := 8) (q0 := 3) rfl rfl) rfl hl.1 rfl (Nat.le_of_ble_eq_true rfl) dX8_makes_32 ⟨Nat.le_of_ble_eq_true rfl, Nat.le_of_ble_eq_true rfl⟩ (fun r_10 hr_10 => ?_)
    obtain ⟨g_11, g_12⟩ := hr_10
    refine va_put (D := D) (ci := 8) (v := .int r_10) (ty := .int) (C := RX8) (T := TX8) (N := 38) hx hb hts hi_X8_makes_8 tyX8 tyX8_ok nmX8 hown hK hP hD hS 3 rfl rfl 3 (by decide) (hts (.fieldLink RX8 115 "TheLiningsInItModel" "depth" "I") (List.mem_of_getElem? (i := 1) rfl)) (fun _ h9 => h9) rfl (tyX8_ok 3 (Nat.le_of_ble_eq_true rfl)) rfl rfl (Nat.le_of_ble_eq_true rfl) dX8_makes_35 (fun H locs hP hD hS => ?_)
    have h9R := zRe (ws' := [(mki, .inl (cI, 8, .inl gki)), (mpa, .inl (cI, 8, .inl gpa)), (mta, .inl (cI, 8, .inl gta)), (zMO m0 npu nte nat_ r_10 nto nse nhu nga q_3 nfa mrf mki mpa mta mla msl mco mhe mso msi msh mce mca mwo mnu mte nba npl nen nnu nwr mwa mke mma mth mtr nra nik)]) hP hD rfl
    clear hP hD
    obtain ⟨hP, hD⟩ := h9R
    refine lv_aload_n hx hb dX8_makes_38 rfl (lv_at hl 1 rfl) ?_
    refine lv_dup hx hb dX8_makes_39 rfl ?_
    refine va_get (D := D) (ci := 8) (v := .int nse) (C := RX8) (T := TX8) (N := 38) hx hb hts hi_X8_makes_8 hown hK hP 3 rfl rfl 5 (by decide) (hts (.fieldLink RX8 13 "TheLiningsInItModel" "seconds" "I") (List.mem_of_getElem? (i := 2) rfl)) (fun _ h9 => h9) rfl dX8_makes_40 ?_
    refine lv_aload_n hx hb dX8_makes_43 rfl (lv_at hl 1 rfl) ?_
    refine va_get (D := D) (ci := 8) (v := .ref mta) (C := RX8) (T := TX8) (N := 38) hx hb hts hi_X8_makes_8 hown hK hP 3 rfl rfl 13 (by decide) (hts (.fieldLink RX8 35 "TheLiningsInItModel" "takes" "[I") (List.mem_of_getElem? (i := 3) rfl)) (fun _ h9 => h9) rfl dX8_makes_44 ?_
    refine lv_iload_n hx hb dX8_makes_47 rfl (lv_at hl 2 rfl) ?_
    refine va_iald hx hb hK hP 2 0 rfl rfl (zf_in (by omega) (by omega)) dX8_makes_48 ?_
    refine lv_topi (fun x_13 ex_13 => ?_)
    have bx_13 : 0 ≤ x_13.toInt ∧ x_13.toInt ≤ 60 := by rw [ex_13]; exact hp_gta _
    refine lv_isub hx hb dX8_makes_49 ?_
    refine lv_topi (fun x_14 ex_14 => ?_)
    refine va_put (D := D) (ci := 8) (v := .int x_14) (ty := .int) (C := RX8) (T := TX8) (N := 38) hx hb hts hi_X8_makes_8 tyX8 tyX8_ok nmX8 hown hK hP hD hS 3 rfl rfl 5 (by decide) (hts (.fieldLink RX8 13 "TheLiningsInItModel" "seconds" "I") (List.mem_of_getElem? (i := 2) rfl)) (fun _ h9 => h9) rfl (tyX8_ok 5 (Nat.le_of_ble_eq_true rfl)) rfl rfl (Nat.le_of_ble_eq_true rfl) dX8_makes_50 (fun H locs hP hD hS => ?_)
    have h9R := zRe (ws' := [(mki, .inl (cI, 8, .inl gki)), (mpa, .inl (cI, 8, .inl gpa)), (mta, .inl (cI, 8, .inl gta)), (zMO m0 npu nte nat_ r_10 nto x_14 nhu nga q_3 nfa mrf mki mpa mta mla msl mco mhe mso msi msh mce mca mwo mnu mte nba npl nen nnu nwr mwa mke mma mth mtr nra nik)]) hP hD rfl
    clear hP hD
    obtain ⟨hP, hD⟩ := h9R
    refine lv_aload_n hx hb dX8_makes_53 rfl (lv_at hl 1 rfl) ?_
    refine va_get (D := D) (ci := 8) (v := .ref mki) (C := RX8) (T := TX8) (N := 38) hx hb hts hi_X8_makes_8 hown hK hP 3 rfl rfl 11 (by decide) (hts (.fieldLink RX8 29 "TheLiningsInItModel" "kind" "[I") (List.mem_of_getElem? (i := 4) rfl)) (fun _ h9 => h9) rfl dX8_makes_54 ?_
    refine lv_iload_n hx hb dX8_makes_57 rfl (lv_at hl 2 rfl) ?_
    refine va_iald hx hb hK hP 0 0 rfl rfl (zf_in (by omega) (by omega)) dX8_makes_58 ?_
    refine lv_topi (fun x_15 ex_15 => ?_)
    have bx_15 : 0 ≤ x_15.toInt ∧ x_15.toInt ≤ 6 := by rw [ex_15]; exact hp_gki _
    refine lv_iconst (v := 5) hx hb dX8_makes_59 (by decide) ?_
    refine lv_icmp_ne (tgt := 73) hx hb dX8_makes_60 (by decide) (fun c_16 => ?_) (fun c_16 => ?_)
    · have fc_16 : x_15.toInt ≠ 5 := zf_ne c_16 rfl (by decide)
      exact W.vret hx hb hr (fun t ht hW => ⟨⟨(r_10, nto, x_14, q_3), rfl, ⟨(show 0 ≤ r_10.toInt ∧ r_10.toInt ≤ 24 from ⟨by omega, by omega⟩), trivial⟩, zRet ht hP hD [3, 0, 1, 2] (by decide) rfl⟩, hS.F ht⟩) hS.2.2 dX8_makes_73
    · have fc_16 : x_15.toInt = 5 := zf_eq c_16 rfl (by decide)
      refine lv_aload_n hx hb dX8_makes_63 rfl (lv_at hl 1 rfl) ?_
      refine lv_dup hx hb dX8_makes_64 rfl ?_
      refine va_get (D := D) (ci := 8) (v := .int nto) (C := RX8) (T := TX8) (N := 38) hx hb hts hi_X8_makes_8 hown hK hP 3 rfl rfl 4 (by decide) (hts (.fieldLink RX8 188 "TheLiningsInItModel" "torn" "I") (List.mem_of_getElem? (i := 5) rfl)) (fun _ h9 => h9) rfl dX8_makes_65 ?_
      refine lv_iconst (v := 1) hx hb dX8_makes_68 (by decide) ?_
      refine lv_iadd hx hb dX8_makes_69 ?_
      refine lv_topi (fun x_17 ex_17 => ?_)
      refine va_put (D := D) (ci := 8) (v := .int x_17) (ty := .int) (C := RX8) (T := TX8) (N := 38) hx hb hts hi_X8_makes_8 tyX8 tyX8_ok nmX8 hown hK hP hD hS 3 rfl rfl 4 (by decide) (hts (.fieldLink RX8 188 "TheLiningsInItModel" "torn" "I") (List.mem_of_getElem? (i := 5) rfl)) (fun _ h9 => h9) rfl (tyX8_ok 4 (Nat.le_of_ble_eq_true rfl)) rfl rfl (Nat.le_of_ble_eq_true rfl) dX8_makes_70 (fun H locs hP hD hS => ?_)
      have h9R := zRe (ws' := [(mki, .inl (cI, 8, .inl gki)), (mpa, .inl (cI, 8, .inl gpa)), (mta, .inl (cI, 8, .inl gta)), (zMO m0 npu nte nat_ r_10 x_17 x_14 nhu nga q_3 nfa mrf mki mpa mta mla msl mco mhe mso msi msh mce mca mwo mnu mte nba npl nen nnu nwr mwa mke mma mth mtr nra nik)]) hP hD rfl
      clear hP hD
      obtain ⟨hP, hD⟩ := h9R
      exact W.vret hx hb hr (fun t ht hW => ⟨⟨(r_10, x_17, x_14, q_3), rfl, ⟨(show 0 ≤ r_10.toInt ∧ r_10.toInt ≤ 24 from ⟨by omega, by omega⟩), trivial⟩, zRet ht hP hD [3, 0, 1, 2] (by decide) rfl⟩, hS.F ht⟩) hS.2.2 dX8_makes_73
  · have fc_9 : r_1.toInt < r_6.toInt := zf_nle c_9 rfl rfl
    refine lv_iconst (v := 1) hx hb dX8_makes_18 (by decide) ?_
    refine lv_goto (tgt := 23) hx hb dX8_makes_19 (by decide) ?_
    refine lv_istore_n (lv' := [(2, .int 1), (0, .ref m0), (1, .int p_)]) hx hb dX8_makes_23 rfl hl (by decide) rfl (fun ls hl => ?_)
    refine lv_aload_n hx hb dX8_makes_24 rfl (lv_at hl 1 rfl) ?_
    refine lv_aload_n hx hb dX8_makes_25 rfl (lv_at hl 1 rfl) ?_
    refine lv_iload_n hx hb dX8_makes_26 rfl (lv_at hl 2 rfl) ?_
    refine lv_aload_n hx hb dX8_makes_27 rfl (lv_at hl 1 rfl) ?_
    refine va_get (D := D) (ci := 8) (v := .int nde) (C := RX8) (T := TX8) (N := 38) hx hb hts hi_X8_makes_8 hown hK hP 3 rfl rfl 3 (by decide) (hts (.fieldLink RX8 115 "TheLiningsInItModel" "depth" "I") (List.mem_of_getElem? (i := 1) rfl)) (fun _ h9 => h9) rfl dX8_makes_28 ?_
    refine lv_iload_n hx hb dX8_makes_31 rfl (lv_at hl 0 rfl) ?_
    refine zc_V (As := [.int p_, .int nde, .int 1]) (rest := [.ref m0]) ⟨hx, hb, hml, hown, hts⟩ (c_M_deep l D cI cJ cZ cP cS po m0 mrf mki mpa mta mla msl mco mhe mso msi msh mce mca mwo mnu mte mwa mke mma mth mtr (npu) (nte) (nat_) (nde) (nto) (nse) (nhu) (nga) (q_3) (nfa) (nba) (npl) (nen) (nnu) (nwr) (nra) (nik) gki gpa (p_) (nde) (1) hy0 hy1 hy2 hy3 hy4 hy5 hy6 hy7 hy8 hy9 hy10 hy11 hy12 hy13 hy14 hy15 hy6 hy7 hp_gki hp_gpa) (cwV 3 hts gX8_makes_X8_deep rfl rfl rfl ⟨rfl, dh_X8_deep⟩ ⟨Nat.le_of_ble_eq_true rfl, Nat.le_of_ble_eq_true rfl⟩) hK hN (hZ.kept hS) hP (hP.sub [3, 0, 1] rfl) (va_recv (q := (RX8, TX8, 38)) hK hP (ci := 8) (q0 := 3) rfl rfl) rfl hl.1 rfl (Nat.le_of_ble_eq_true rfl) dX8_makes_32 ⟨Nat.le_of_ble_eq_true rfl, Nat.le_of_ble_eq_true rfl⟩ (fun r_18 hr_18 => ?_)
    obtain ⟨g_19, g_20⟩ := hr_18
    refine va_put (D := D) (ci := 8) (v := .int r_18) (ty := .int) (C := RX8) (T := TX8) (N := 38) hx hb hts hi_X8_makes_8 tyX8 tyX8_ok nmX8 hown hK hP hD hS 3 rfl rfl 3 (by decide) (hts (.fieldLink RX8 115 "TheLiningsInItModel" "depth" "I") (List.mem_of_getElem? (i := 1) rfl)) (fun _ h9 => h9) rfl (tyX8_ok 3 (Nat.le_of_ble_eq_true rfl)) rfl rfl (Nat.le_of_ble_eq_true rfl) dX8_makes_35 (fun H locs hP hD hS => ?_)
    have h9R := zRe (ws' := [(mki, .inl (cI, 8, .inl gki)), (mpa, .inl (cI, 8, .inl gpa)), (mta, .inl (cI, 8, .inl gta)), (zMO m0 npu nte nat_ r_18 nto nse nhu nga q_3 nfa mrf mki mpa mta mla msl mco mhe mso msi msh mce mca mwo mnu mte nba npl nen nnu nwr mwa mke mma mth mtr nra nik)]) hP hD rfl
    clear hP hD
    obtain ⟨hP, hD⟩ := h9R
    refine lv_aload_n hx hb dX8_makes_38 rfl (lv_at hl 1 rfl) ?_
    refine lv_dup hx hb dX8_makes_39 rfl ?_
    refine va_get (D := D) (ci := 8) (v := .int nse) (C := RX8) (T := TX8) (N := 38) hx hb hts hi_X8_makes_8 hown hK hP 3 rfl rfl 5 (by decide) (hts (.fieldLink RX8 13 "TheLiningsInItModel" "seconds" "I") (List.mem_of_getElem? (i := 2) rfl)) (fun _ h9 => h9) rfl dX8_makes_40 ?_
    refine lv_aload_n hx hb dX8_makes_43 rfl (lv_at hl 1 rfl) ?_
    refine va_get (D := D) (ci := 8) (v := .ref mta) (C := RX8) (T := TX8) (N := 38) hx hb hts hi_X8_makes_8 hown hK hP 3 rfl rfl 13 (by decide) (hts (.fieldLink RX8 35 "TheLiningsInItModel" "takes" "[I") (List.mem_of_getElem? (i := 3) rfl)) (fun _ h9 => h9) rfl dX8_makes_44 ?_
    refine lv_iload_n hx hb dX8_makes_47 rfl (lv_at hl 2 rfl) ?_
    refine va_iald hx hb hK hP 2 0 rfl rfl (zf_in (by omega) (by omega)) dX8_makes_48 ?_
    refine lv_topi (fun x_21 ex_21 => ?_)
    have bx_21 : 0 ≤ x_21.toInt ∧ x_21.toInt ≤ 60 := by rw [ex_21]; exact hp_gta _
    refine lv_isub hx hb dX8_makes_49 ?_
    refine lv_topi (fun x_22 ex_22 => ?_)
    refine va_put (D := D) (ci := 8) (v := .int x_22) (ty := .int) (C := RX8) (T := TX8) (N := 38) hx hb hts hi_X8_makes_8 tyX8 tyX8_ok nmX8 hown hK hP hD hS 3 rfl rfl 5 (by decide) (hts (.fieldLink RX8 13 "TheLiningsInItModel" "seconds" "I") (List.mem_of_getElem? (i := 2) rfl)) (fun _ h9 => h9) rfl (tyX8_ok 5 (Nat.le_of_ble_eq_true rfl)) rfl rfl (Nat.le_of_ble_eq_true rfl) dX8_makes_50 (fun H locs hP hD hS => ?_)
    have h9R := zRe (ws' := [(mki, .inl (cI, 8, .inl gki)), (mpa, .inl (cI, 8, .inl gpa)), (mta, .inl (cI, 8, .inl gta)), (zMO m0 npu nte nat_ r_18 nto x_22 nhu nga q_3 nfa mrf mki mpa mta mla msl mco mhe mso msi msh mce mca mwo mnu mte nba npl nen nnu nwr mwa mke mma mth mtr nra nik)]) hP hD rfl
    clear hP hD
    obtain ⟨hP, hD⟩ := h9R
    refine lv_aload_n hx hb dX8_makes_53 rfl (lv_at hl 1 rfl) ?_
    refine va_get (D := D) (ci := 8) (v := .ref mki) (C := RX8) (T := TX8) (N := 38) hx hb hts hi_X8_makes_8 hown hK hP 3 rfl rfl 11 (by decide) (hts (.fieldLink RX8 29 "TheLiningsInItModel" "kind" "[I") (List.mem_of_getElem? (i := 4) rfl)) (fun _ h9 => h9) rfl dX8_makes_54 ?_
    refine lv_iload_n hx hb dX8_makes_57 rfl (lv_at hl 2 rfl) ?_
    refine va_iald hx hb hK hP 0 0 rfl rfl (zf_in (by omega) (by omega)) dX8_makes_58 ?_
    refine lv_topi (fun x_23 ex_23 => ?_)
    have bx_23 : 0 ≤ x_23.toInt ∧ x_23.toInt ≤ 6 := by rw [ex_23]; exact hp_gki _
    refine lv_iconst (v := 5) hx hb dX8_makes_59 (by decide) ?_
    refine lv_icmp_ne (tgt := 73) hx hb dX8_makes_60 (by decide) (fun c_24 => ?_) (fun c_24 => ?_)
    · have fc_24 : x_23.toInt ≠ 5 := zf_ne c_24 rfl (by decide)
      exact W.vret hx hb hr (fun t ht hW => ⟨⟨(r_18, nto, x_22, q_3), rfl, ⟨(show 0 ≤ r_18.toInt ∧ r_18.toInt ≤ 24 from ⟨by omega, by omega⟩), trivial⟩, zRet ht hP hD [3, 0, 1, 2] (by decide) rfl⟩, hS.F ht⟩) hS.2.2 dX8_makes_73
    · have fc_24 : x_23.toInt = 5 := zf_eq c_24 rfl (by decide)
      refine lv_aload_n hx hb dX8_makes_63 rfl (lv_at hl 1 rfl) ?_
      refine lv_dup hx hb dX8_makes_64 rfl ?_
      refine va_get (D := D) (ci := 8) (v := .int nto) (C := RX8) (T := TX8) (N := 38) hx hb hts hi_X8_makes_8 hown hK hP 3 rfl rfl 4 (by decide) (hts (.fieldLink RX8 188 "TheLiningsInItModel" "torn" "I") (List.mem_of_getElem? (i := 5) rfl)) (fun _ h9 => h9) rfl dX8_makes_65 ?_
      refine lv_iconst (v := 1) hx hb dX8_makes_68 (by decide) ?_
      refine lv_iadd hx hb dX8_makes_69 ?_
      refine lv_topi (fun x_25 ex_25 => ?_)
      refine va_put (D := D) (ci := 8) (v := .int x_25) (ty := .int) (C := RX8) (T := TX8) (N := 38) hx hb hts hi_X8_makes_8 tyX8 tyX8_ok nmX8 hown hK hP hD hS 3 rfl rfl 4 (by decide) (hts (.fieldLink RX8 188 "TheLiningsInItModel" "torn" "I") (List.mem_of_getElem? (i := 5) rfl)) (fun _ h9 => h9) rfl (tyX8_ok 4 (Nat.le_of_ble_eq_true rfl)) rfl rfl (Nat.le_of_ble_eq_true rfl) dX8_makes_70 (fun H locs hP hD hS => ?_)
      have h9R := zRe (ws' := [(mki, .inl (cI, 8, .inl gki)), (mpa, .inl (cI, 8, .inl gpa)), (mta, .inl (cI, 8, .inl gta)), (zMO m0 npu nte nat_ r_18 x_25 x_22 nhu nga q_3 nfa mrf mki mpa mta mla msl mco mhe mso msi msh mce mca mwo mnu mte nba npl nen nnu nwr mwa mke mma mth mtr nra nik)]) hP hD rfl
      clear hP hD
      obtain ⟨hP, hD⟩ := h9R
      exact W.vret hx hb hr (fun t ht hW => ⟨⟨(r_18, x_25, x_22, q_3), rfl, ⟨(show 0 ≤ r_18.toInt ∧ r_18.toInt ≤ 24 from ⟨by omega, by omega⟩), trivial⟩, zRet ht hP hD [3, 0, 1, 2] (by decide) rfl⟩, hS.F ht⟩) hS.2.2 dX8_makes_73
theorem hi_X8_pulls_8 : ∀ w ∈ u_ws RX8 TX8 38, w ∈ wsX8_pulls := fun w h => (gl_X8_pulls_X80 w h).1
set_option maxHeartbeats 4000000 in
set_option maxRecDepth 100000 in
theorem c_M_pulls (l : Launch) (D : va_G) (cI cJ cZ cP cS : ClassId) (po : zPool) (m0 mrf mki mpa mta mla msl mco mhe mso msi msh mce mca mwo mnu mte mwa mke mma mth mtr : Nat) (npu nte nat_ nde nto nse nhu nga nsd nfa nba npl nen nnu nwr nra nik : Int32) (grf gki gpa gta : Nat → Int32) (p_ : Int32) (hy0 : 0 ≤ npu.toInt) (hy1 : npu.toInt ≤ 8) (hy2 : 4 ≤ nte.toInt) (hy3 : nte.toInt ≤ 40) (hy4 : 0 ≤ nat_.toInt) (hy5 : nat_.toInt ≤ 40) (hy6 : 0 ≤ nde.toInt) (hy7 : nde.toInt ≤ 24) (hy8 : 0 ≤ nhu.toInt) (hy9 : nhu.toInt ≤ 9) (hy10 : 0 ≤ nra.toInt) (hy11 : nra.toInt ≤ 2000) (hy12 : 0 ≤ nik.toInt) (hy13 : nik.toInt ≤ 1) (hp_gki : zRg gki (0) 6) (hp_gpa : zRg gpa (0) 9) (hp_gta : zRg gta (0) 60) (hpz : Nat) : Met l yX8_pulls wsX8_pulls ({ frames := 3, cells := 0, slots := 0, locals := 67 }) (va_Pc [.ref m0, .int p_] (zW D (zKT cI cJ cZ cP cS) po [(zMO m0 npu nte nat_ nde nto nse nhu nga nsd nfa mrf mki mpa mta mla msl mco mhe mso msi msh mce mca mwo mnu mte nba npl nen nnu nwr mwa mke mma mth mtr nra nik), (mrf, .inl (cI, 8, .inl grf)), (mki, .inl (cI, 8, .inl gki)), (mpa, .inl (cI, 8, .inl gpa)), (mta, .inl (cI, 8, .inl gta))] hpz)) (va_Qi (fun (r : Int32) (u : (Int32) × (Int32) × (Int32) × (Int32) × (Nat → Int32)) => (0 ≤ u.1.toInt ∧ u.1.toInt ≤ 24) ∧ (True)) (zB D [(zMO m0 npu nte nat_ nde nto nse nhu nga nsd nfa mrf mki mpa mta mla msl mco mhe mso msi msh mce mca mwo mnu mte nba npl nen nnu nwr mwa mke mma mth mtr nra nik), (mrf, .inl (cI, 8, .inl grf)), (mki, .inl (cI, 8, .inl gki)), (mpa, .inl (cI, 8, .inl gpa)), (mta, .inl (cI, 8, .inl gta))] hpz (fun (u : (Int32) × (Int32) × (Int32) × (Int32) × (Nat → Int32)) => [(zMO m0 npu nte nat_ u.1 u.2.1 u.2.2.1 nhu nga u.2.2.2.1 nfa mrf mki mpa mta mla msl mco mhe mso msi msh mce mca mwo mnu mte nba npl nen nnu nwr mwa mke mma mth mtr nra nik), (mrf, .inl (cI, 8, .inl u.2.2.2.2)), (mki, .inl (cI, 8, .inl gki)), (mpa, .inl (cI, 8, .inl gpa)), (mta, .inl (cI, 8, .inl gta))])) (va_A [(zMO m0 npu nte nat_ nde nto nse nhu nga nsd nfa mrf mki mpa mta mla msl mco mhe mso msi msh mce mca mwo mnu mte nba npl nen nnu nwr mwa mke mma mth mtr nra nik), (mrf, .inl (cI, 8, .inl grf)), (mki, .inl (cI, 8, .inl gki)), (mpa, .inl (cI, 8, .inl gpa)), (mta, .inl (cI, 8, .inl gta))] hpz)) 0 0 (va_A [(zMO m0 npu nte nat_ nde nto nse nhu nga nsd nfa mrf mki mpa mta mla msl mco mhe mso msi msh mce mca mwo mnu mte nba npl nen nnu nwr mwa mke mma mth mtr nra nik), (mrf, .inl (cI, 8, .inl grf)), (mki, .inl (cI, 8, .inl gki)), (mpa, .inl (cI, 8, .inl gpa)), (mta, .inl (cI, 8, .inl gta))] hpz) := by
  refine Met.ofW (cc := cX8_pulls) (maxL := 2) (ret := (some .int)) (by decide) rfl ?_
  intro p e s m args below meth c s₁ B hml hv
  obtain ⟨rfl, hsz, hP, hK, hD0, hN, hZ⟩ := hv
  have hx := B.exec
  have hb := B.bytes
  have hr := B.returns
  have hts := atoms_spec (ws := wsX8_pulls) B.pre
  have hown : s.vm.findClass RX8 = some m.cls := findClass_of_methodNamed B.named
  have hlocks := B.notSynchronized
  subst hsz
  have hD := hD0.self (sz := s.heap.size)
  have hA := zA_of hD
  have hl := lv_entry ([.ref m0, .int p_]) (n := 2) (Nat.le_of_ble_eq_true rfl)
  rw [lg_entry_eq]
  generalize (lg_sl ([.ref m0, .int p_]) ++ List.replicate (2 - (lg_sl ([.ref m0, .int p_])).length) Slot.unset).toArray = ls at hl ⊢
  replace hl : lv_has ls 2 [(0, .ref m0), (1, .int p_)] := hl
  refine zw_begin hP hD (fun H locs hP1 hS => ?_)
  clear hP
  have hP := hP1
  clear hP1
  refine lv_aload_n hx hb dX8_pulls_0 rfl (lv_at hl 0 rfl) ?_
  refine lv_iload_n hx hb dX8_pulls_1 rfl (lv_at hl 1 rfl) ?_
  refine zc_V (As := [.int p_]) (rest := []) ⟨hx, hb, hml, hown, hts⟩ (c_M_isPull l D cI cJ cZ cP cS po m0 mrf mki mpa mta mla msl mco mhe mso msi msh mce mca mwo mnu mte mwa mke mma mth mtr (npu) (nte) (nat_) (nde) (nto) (nse) (nhu) (nga) (nsd) (nfa) (nba) (npl) (nen) (nnu) (nwr) (nra) (nik) (p_) hy0 hy1 hy2 hy3 hy4 hy5 hy6 hy7 hy8 hy9 hy10 hy11 hy12 hy13) (cwV 1 hts gX8_pulls_X8_isPull rfl rfl rfl ⟨rfl, dh_X8_isPull⟩ ⟨Nat.le_of_ble_eq_true rfl, Nat.le_of_ble_eq_true rfl⟩) hK hN (hZ.kept hS) hP (hP.sub [0] rfl) (va_recv (q := (RX8, TX8, 38)) hK hP (ci := 8) (q0 := 0) rfl rfl) rfl hl.1 rfl (Nat.le_of_ble_eq_true rfl) dX8_pulls_2 ⟨Nat.le_of_ble_eq_true rfl, Nat.le_of_ble_eq_true rfl⟩ (fun r_1 hr_1 => ?_)
  rcases hr_1 with ⟨rfl, g_2⟩ | ⟨rfl, g_3, g_4⟩ | ⟨rfl, g_5, g_6⟩
  · refine lv_if_ne (tgt := 14) hx hb dX8_pulls_5 (by decide) (fun c_7 => ?_) (fun c_7 => ?_)
    · exact absurd c_7 (by decide)
    · refine lv_aload_n hx hb dX8_pulls_8 rfl (lv_at hl 0 rfl) ?_
      refine lv_iconst (v := (-1)) hx hb dX8_pulls_9 (by decide) ?_
      skip
      refine zw_V (As := [.int (-1)]) (rest := []) (wr := [(mki, .inl (cI, 8, .inl gki)), (mpa, .inl (cI, 8, .inl gpa)), (mta, .inl (cI, 8, .inl gta))]) ⟨hx, hb, hml, hown, hts⟩ (c_M_no_1 l D cI cJ cZ cP cS po m0 mrf mki mpa mta mla msl mco mhe mso msi msh mce mca mwo mnu mte mwa mke mma mth mtr (npu) (nte) (nat_) (nde) (nto) (nse) (nhu) (nga) (nsd) (nfa) (nba) (npl) (nen) (nnu) (nwr) (nra) (nik) grf hy0 hy1 hy2 hy3 hy4 hy5 hy6 hy7 hy8 hy9 hy10 hy11 hy12 hy13 H.size) (cwV 1 hts gX8_pulls_X8_no rfl rfl rfl ⟨rfl, dh_X8_no⟩ ⟨Nat.le_of_ble_eq_true rfl, Nat.le_of_ble_eq_true rfl⟩) hK hN (hZ.kept hS) hP hD hS hA [0, 1] [2, 3, 4] rfl rfl (by decide) (by decide) (by decide) (va_recv (q := (RX8, TX8, 38)) hK hP (ci := 8) (q0 := 0) rfl rfl) rfl hl.1 rfl (Nat.le_of_ble_eq_true rfl) dX8_pulls_10 ⟨Nat.le_of_ble_eq_true rfl, Nat.le_of_ble_eq_true rfl⟩ (fun r_8 u_9 H locs hr_8 hP hD hS => ?_)
      obtain ⟨q_10, rfl⟩ : ∃ z, z = u_9 := ⟨_, rfl⟩
      have h9R := zRe (ws' := [(mki, .inl (cI, 8, .inl gki)), (mpa, .inl (cI, 8, .inl gpa)), (mta, .inl (cI, 8, .inl gta)), (zMO m0 npu nte nat_ nde nto nse nhu nga nsd nfa mrf mki mpa mta mla msl mco mhe mso msi msh mce mca mwo mnu mte nba npl nen nnu nwr mwa mke mma mth mtr nra nik), (mrf, .inl (cI, 8, .inl q_10))]) hP hD rfl
      clear hP hD
      obtain ⟨hP, hD⟩ := h9R
      obtain rfl := hr_8
      exact W.iret (v := (-1)) hx hb hr (fun t ht hW => ⟨⟨(-1), (nde, nto, nse, nsd, q_10), rfl, ⟨(show 0 ≤ nde.toInt ∧ nde.toInt ≤ 24 from ⟨hy6, hy7⟩), trivial⟩, zRet ht hP hD [3, 4, 0, 1, 2] (by decide) rfl⟩, hS.F ht⟩) hS.2.2 dX8_pulls_13
  · refine lv_if_ne (tgt := 14) hx hb dX8_pulls_5 (by decide) (fun c_11 => ?_) (fun c_11 => ?_)
    · exact absurd c_11 (by decide)
    · refine lv_aload_n hx hb dX8_pulls_8 rfl (lv_at hl 0 rfl) ?_
      refine lv_iconst (v := (-1)) hx hb dX8_pulls_9 (by decide) ?_
      skip
      refine zw_V (As := [.int (-1)]) (rest := []) (wr := [(mki, .inl (cI, 8, .inl gki)), (mpa, .inl (cI, 8, .inl gpa)), (mta, .inl (cI, 8, .inl gta))]) ⟨hx, hb, hml, hown, hts⟩ (c_M_no_1 l D cI cJ cZ cP cS po m0 mrf mki mpa mta mla msl mco mhe mso msi msh mce mca mwo mnu mte mwa mke mma mth mtr (npu) (nte) (nat_) (nde) (nto) (nse) (nhu) (nga) (nsd) (nfa) (nba) (npl) (nen) (nnu) (nwr) (nra) (nik) grf hy0 hy1 hy2 hy3 hy4 hy5 hy6 hy7 hy8 hy9 hy10 hy11 hy12 hy13 H.size) (cwV 1 hts gX8_pulls_X8_no rfl rfl rfl ⟨rfl, dh_X8_no⟩ ⟨Nat.le_of_ble_eq_true rfl, Nat.le_of_ble_eq_true rfl⟩) hK hN (hZ.kept hS) hP hD hS hA [0, 1] [2, 3, 4] rfl rfl (by decide) (by decide) (by decide) (va_recv (q := (RX8, TX8, 38)) hK hP (ci := 8) (q0 := 0) rfl rfl) rfl hl.1 rfl (Nat.le_of_ble_eq_true rfl) dX8_pulls_10 ⟨Nat.le_of_ble_eq_true rfl, Nat.le_of_ble_eq_true rfl⟩ (fun r_12 u_13 H locs hr_12 hP hD hS => ?_)
      obtain ⟨q_14, rfl⟩ : ∃ z, z = u_13 := ⟨_, rfl⟩
      have h9R := zRe (ws' := [(mki, .inl (cI, 8, .inl gki)), (mpa, .inl (cI, 8, .inl gpa)), (mta, .inl (cI, 8, .inl gta)), (zMO m0 npu nte nat_ nde nto nse nhu nga nsd nfa mrf mki mpa mta mla msl mco mhe mso msi msh mce mca mwo mnu mte nba npl nen nnu nwr mwa mke mma mth mtr nra nik), (mrf, .inl (cI, 8, .inl q_14))]) hP hD rfl
      clear hP hD
      obtain ⟨hP, hD⟩ := h9R
      obtain rfl := hr_12
      exact W.iret (v := (-1)) hx hb hr (fun t ht hW => ⟨⟨(-1), (nde, nto, nse, nsd, q_14), rfl, ⟨(show 0 ≤ nde.toInt ∧ nde.toInt ≤ 24 from ⟨hy6, hy7⟩), trivial⟩, zRet ht hP hD [3, 4, 0, 1, 2] (by decide) rfl⟩, hS.F ht⟩) hS.2.2 dX8_pulls_13
  · refine lv_if_ne (tgt := 14) hx hb dX8_pulls_5 (by decide) (fun c_15 => ?_) (fun c_15 => ?_)
    · refine lv_aload_n hx hb dX8_pulls_14 rfl (lv_at hl 0 rfl) ?_
      refine lv_iload_n hx hb dX8_pulls_15 rfl (lv_at hl 1 rfl) ?_
      refine lv_aload_n hx hb dX8_pulls_16 rfl (lv_at hl 0 rfl) ?_
      refine va_get (D := D) (ci := 8) (v := .int nde) (C := RX8) (T := TX8) (N := 38) hx hb hts hi_X8_pulls_8 hown hK hP 0 rfl rfl 3 (by decide) (hts (.fieldLink RX8 115 "TheLiningsInItModel" "depth" "I") (List.mem_of_getElem? (i := 1) rfl)) (fun _ h9 => h9) rfl dX8_pulls_17 ?_
      refine lv_aload_n hx hb dX8_pulls_20 rfl (lv_at hl 0 rfl) ?_
      refine va_get (D := D) (ci := 8) (v := .int nse) (C := RX8) (T := TX8) (N := 38) hx hb hts hi_X8_pulls_8 hown hK hP 0 rfl rfl 5 (by decide) (hts (.fieldLink RX8 13 "TheLiningsInItModel" "seconds" "I") (List.mem_of_getElem? (i := 2) rfl)) (fun _ h9 => h9) rfl dX8_pulls_21 ?_
      refine zc_V (As := [.int p_, .int nde, .int nse]) (rest := []) ⟨hx, hb, hml, hown, hts⟩ (c_M_mayBe l D cI cJ cZ cP cS po m0 mrf mki mpa mta mla msl mco mhe mso msi msh mce mca mwo mnu mte mwa mke mma mth mtr (npu) (nte) (nat_) (nde) (nto) (nse) (nhu) (nga) (nsd) (nfa) (nba) (npl) (nen) (nnu) (nwr) (nra) (nik) gta (p_) (nde) (nse) hy0 hy1 hy2 hy3 hy4 hy5 hy6 hy7 hy8 hy9 hy10 hy11 hy12 hy13 (by omega) (by omega) hp_gta) (cwV 3 hts gX8_pulls_X8_mayBe rfl rfl rfl ⟨rfl, dh_X8_mayBe⟩ ⟨Nat.le_of_ble_eq_true rfl, Nat.le_of_ble_eq_true rfl⟩) hK hN (hZ.kept hS) hP (hP.sub [0, 4] rfl) (va_recv (q := (RX8, TX8, 38)) hK hP (ci := 8) (q0 := 0) rfl rfl) rfl hl.1 rfl (Nat.le_of_ble_eq_true rfl) dX8_pulls_24 ⟨Nat.le_of_ble_eq_true rfl, Nat.le_of_ble_eq_true rfl⟩ (fun r_16 hr_16 => ?_)
      obtain ⟨g_17, g_18, hsr_16_0⟩ := hr_16
      refine lv_if_ne (tgt := 37) hx hb dX8_pulls_27 (by decide) (fun c_19 => ?_) (fun c_19 => ?_)
      · have fc_19 : r_16.toInt ≠ 0 := zf_ne c_19 rfl (by decide)
        refine lv_aload_n hx hb dX8_pulls_37 rfl (lv_at hl 0 rfl) ?_
        refine lv_iload_n hx hb dX8_pulls_38 rfl (lv_at hl 1 rfl) ?_
        skip
        refine zw_Vv (As := [.int p_]) (rest := []) (wr := [(mrf, .inl (cI, 8, .inl grf))]) ⟨hx, hb, hml, hown, hts⟩ (c_M_makes l D cI cJ cZ cP cS po m0 mrf mki mpa mta mla msl mco mhe mso msi msh mce mca mwo mnu mte mwa mke mma mth mtr (npu) (nte) (nat_) (nde) (nto) (nse) (nhu) (nga) (nsd) (nfa) (nba) (npl) (nen) (nnu) (nwr) (nra) (nik) gki gpa gta (p_) hy0 hy1 hy2 hy3 hy4 hy5 hy6 hy7 hy8 hy9 hy10 hy11 hy12 hy13 (by omega) (by omega) hp_gki hp_gpa hp_gta H.size) (cwV 1 hts gX8_pulls_X8_makes rfl rfl rfl ⟨rfl, dh_X8_makes⟩ ⟨Nat.le_of_ble_eq_true rfl, Nat.le_of_ble_eq_true rfl⟩) hK hN (hZ.kept hS) hP hD hS hA [0, 2, 3, 4] [1] rfl rfl (by decide) (by decide) (by decide) (va_recv (q := (RX8, TX8, 38)) hK hP (ci := 8) (q0 := 0) rfl rfl) rfl hl.1 rfl (Nat.le_of_ble_eq_true rfl) dX8_pulls_39 ⟨Nat.le_of_ble_eq_true rfl, Nat.le_of_ble_eq_true rfl⟩ (fun u_21 H locs hr_20 hP hD hS => ?_)
        obtain ⟨q_22, q_23, q_24, q_25⟩ := u_21
        try dsimp only at hr_20
        obtain ⟨hbq_22, hr_20⟩ := hr_20
        have h9R := zRe (ws' := [(mrf, .inl (cI, 8, .inl grf)), (zMO m0 npu nte nat_ q_22 q_23 q_24 nhu nga q_25 nfa mrf mki mpa mta mla msl mco mhe mso msi msh mce mca mwo mnu mte nba npl nen nnu nwr mwa mke mma mth mtr nra nik), (mki, .inl (cI, 8, .inl gki)), (mpa, .inl (cI, 8, .inl gpa)), (mta, .inl (cI, 8, .inl gta))]) hP hD rfl
        clear hP hD
        obtain ⟨hP, hD⟩ := h9R
        refine lv_aload_n hx hb dX8_pulls_42 rfl (lv_at hl 0 rfl) ?_
        refine va_get (D := D) (ci := 8) (v := .int q_22) (C := RX8) (T := TX8) (N := 38) hx hb hts hi_X8_pulls_8 hown hK hP 1 rfl rfl 3 (by decide) (hts (.fieldLink RX8 115 "TheLiningsInItModel" "depth" "I") (List.mem_of_getElem? (i := 1) rfl)) (fun _ h9 => h9) rfl dX8_pulls_43 ?_
        exact W.iret (v := q_22) hx hb hr (fun t ht hW => ⟨⟨q_22, (q_22, q_23, q_24, q_25, grf), rfl, ⟨(show 0 ≤ q_22.toInt ∧ q_22.toInt ≤ 24 from hbq_22), trivial⟩, zRet ht hP hD [1, 0, 2, 3, 4] (by decide) rfl⟩, hS.F ht⟩) hS.2.2 dX8_pulls_46
      · have fc_19 : r_16.toInt = 0 := zf_eq c_19 rfl (by decide)
        refine lv_aload_n hx hb dX8_pulls_30 rfl (lv_at hl 0 rfl) ?_
        refine lv_bipush (v := (-6)) hx hb dX8_pulls_31 (by decide) ?_
        skip
        refine zw_V (As := [.int (-6)]) (rest := []) (wr := [(mki, .inl (cI, 8, .inl gki)), (mpa, .inl (cI, 8, .inl gpa)), (mta, .inl (cI, 8, .inl gta))]) ⟨hx, hb, hml, hown, hts⟩ (c_M_no_6 l D cI cJ cZ cP cS po m0 mrf mki mpa mta mla msl mco mhe mso msi msh mce mca mwo mnu mte mwa mke mma mth mtr (npu) (nte) (nat_) (nde) (nto) (nse) (nhu) (nga) (nsd) (nfa) (nba) (npl) (nen) (nnu) (nwr) (nra) (nik) grf hy0 hy1 hy2 hy3 hy4 hy5 hy6 hy7 hy8 hy9 hy10 hy11 hy12 hy13 H.size) (cwV 1 hts gX8_pulls_X8_no rfl rfl rfl ⟨rfl, dh_X8_no⟩ ⟨Nat.le_of_ble_eq_true rfl, Nat.le_of_ble_eq_true rfl⟩) hK hN (hZ.kept hS) hP hD hS hA [0, 1] [2, 3, 4] rfl rfl (by decide) (by decide) (by decide) (va_recv (q := (RX8, TX8, 38)) hK hP (ci := 8) (q0 := 0) rfl rfl) rfl hl.1 rfl (Nat.le_of_ble_eq_true rfl) dX8_pulls_33 ⟨Nat.le_of_ble_eq_true rfl, Nat.le_of_ble_eq_true rfl⟩ (fun r_26 u_27 H locs hr_26 hP hD hS => ?_)
        obtain ⟨q_28, rfl⟩ : ∃ z, z = u_27 := ⟨_, rfl⟩
        have h9R := zRe (ws' := [(mki, .inl (cI, 8, .inl gki)), (mpa, .inl (cI, 8, .inl gpa)), (mta, .inl (cI, 8, .inl gta)), (zMO m0 npu nte nat_ nde nto nse nhu nga nsd nfa mrf mki mpa mta mla msl mco mhe mso msi msh mce mca mwo mnu mte nba npl nen nnu nwr mwa mke mma mth mtr nra nik), (mrf, .inl (cI, 8, .inl q_28))]) hP hD rfl
        clear hP hD
        obtain ⟨hP, hD⟩ := h9R
        obtain rfl := hr_26
        exact W.iret (v := (-6)) hx hb hr (fun t ht hW => ⟨⟨(-6), (nde, nto, nse, nsd, q_28), rfl, ⟨(show 0 ≤ nde.toInt ∧ nde.toInt ≤ 24 from ⟨hy6, hy7⟩), trivial⟩, zRet ht hP hD [3, 4, 0, 1, 2] (by decide) rfl⟩, hS.F ht⟩) hS.2.2 dX8_pulls_36
    · exact absurd c_15 (by decide)
theorem hi_X8_closes_8 : ∀ w ∈ u_ws RX8 TX8 38, w ∈ wsX8_closes := fun w h => (gl_X8_closes_X80 w h).1
set_option maxHeartbeats 4000000 in
set_option maxRecDepth 100000 in
theorem c_M_closes (l : Launch) (D : va_G) (cI cJ cZ cP cS : ClassId) (po : zPool) (m0 mrf mki mpa mta mla msl mco mhe mso msi msh mce mca mwo mnu mte mwa mke mma mth mtr : Nat) (npu nte nat_ nde nto nse nhu nga nsd nfa nba npl nen nnu nwr nra nik : Int32) (gla gsl : Nat → Int32) (hy0 : 0 ≤ npu.toInt) (hy1 : npu.toInt ≤ 8) (hy2 : 4 ≤ nte.toInt) (hy3 : nte.toInt ≤ 40) (hy4 : 0 ≤ nat_.toInt) (hy5 : nat_.toInt ≤ 40) (hy6 : 0 ≤ nde.toInt) (hy7 : nde.toInt ≤ 24) (hy8 : 0 ≤ nhu.toInt) (hy9 : nhu.toInt ≤ 9) (hy10 : 0 ≤ nra.toInt) (hy11 : nra.toInt ≤ 2000) (hy12 : 0 ≤ nik.toInt) (hy13 : nik.toInt ≤ 1) (hp_gla : zRg gla (0) 1) (hp_gsl : zRg gsl (0) 9) (hpz : Nat) : Met l yX8_closes wsX8_closes ({ frames := 1, cells := 0, slots := 0, locals := 21 }) (va_Pc [.ref m0] (zW D (zKT cI cJ cZ cP cS) po [(zMO m0 npu nte nat_ nde nto nse nhu nga nsd nfa mrf mki mpa mta mla msl mco mhe mso msi msh mce mca mwo mnu mte nba npl nen nnu nwr mwa mke mma mth mtr nra nik), (mla, .inl (cI, 40, .inl gla)), (msl, .inl (cI, 40, .inl gsl))] hpz)) (va_Qv (fun (u : (Int32) × (Int32) × (Int32)) => (0 ≤ u.1.toInt ∧ u.1.toInt ≤ 40) ∧ (0 ≤ u.2.1.toInt ∧ u.2.1.toInt ≤ 24) ∧ (True)) (zB D [(zMO m0 npu nte nat_ nde nto nse nhu nga nsd nfa mrf mki mpa mta mla msl mco mhe mso msi msh mce mca mwo mnu mte nba npl nen nnu nwr mwa mke mma mth mtr nra nik), (mla, .inl (cI, 40, .inl gla)), (msl, .inl (cI, 40, .inl gsl))] hpz (fun (u : (Int32) × (Int32) × (Int32)) => [(zMO m0 npu nte u.1 u.2.1 nto nse nhu nga u.2.2 nfa mrf mki mpa mta mla msl mco mhe mso msi msh mce mca mwo mnu mte nba npl nen nnu nwr mwa mke mma mth mtr nra nik), (mla, .inl (cI, 40, .inl gla)), (msl, .inl (cI, 40, .inl gsl))])) (va_A [(zMO m0 npu nte nat_ nde nto nse nhu nga nsd nfa mrf mki mpa mta mla msl mco mhe mso msi msh mce mca mwo mnu mte nba npl nen nnu nwr mwa mke mma mth mtr nra nik), (mla, .inl (cI, 40, .inl gla)), (msl, .inl (cI, 40, .inl gsl))] hpz)) 0 0 (va_A [(zMO m0 npu nte nat_ nde nto nse nhu nga nsd nfa mrf mki mpa mta mla msl mco mhe mso msi msh mce mca mwo mnu mte nba npl nen nnu nwr mwa mke mma mth mtr nra nik), (mla, .inl (cI, 40, .inl gla)), (msl, .inl (cI, 40, .inl gsl))] hpz) := by
  refine Met.ofW (cc := cX8_closes) (maxL := 1) (ret := none) (by decide) rfl ?_
  intro p e s m args below meth c s₁ B hml hv
  obtain ⟨rfl, hsz, hP, hK, hD0, hN, hZ⟩ := hv
  have hx := B.exec
  have hb := B.bytes
  have hr := B.returns
  have hts := atoms_spec (ws := wsX8_closes) B.pre
  have hown : s.vm.findClass RX8 = some m.cls := findClass_of_methodNamed B.named
  have hlocks := B.notSynchronized
  subst hsz
  have hD := hD0.self (sz := s.heap.size)
  have hA := zA_of hD
  have hl := lv_entry ([.ref m0]) (n := 1) (Nat.le_of_ble_eq_true rfl)
  rw [lg_entry_eq]
  generalize (lg_sl ([.ref m0]) ++ List.replicate (1 - (lg_sl ([.ref m0])).length) Slot.unset).toArray = ls at hl ⊢
  replace hl : lv_has ls 1 [(0, .ref m0)] := hl
  refine zw_begin hP hD (fun H locs hP1 hS => ?_)
  clear hP
  have hP := hP1
  clear hP1
  obtain ⟨i_0, hi_0⟩ : ∃ i : Int32, i = nat_ := ⟨_, rfl⟩
  replace hl : lv_has ls 1 [(0, .ref m0)] := lv_sub hl [0] rfl
  replace hP : va_P D vwCl [(zMO m0 npu nte i_0 nde nto nse nhu nga nsd nfa mrf mki mpa mta mla msl mco mhe mso msi msh mce mca mwo mnu mte nba npl nen nnu nwr mwa mke mma mth mtr nra nik), (mla, .inl (cI, 40, .inl gla)), (msl, .inl (cI, 40, .inl gsl))] H := by rw [hi_0]; exact hP
  replace hD : va_D (va_A [(zMO m0 npu nte nat_ nde nto nse nhu nga nsd nfa mrf mki mpa mta mla msl mco mhe mso msi msh mce mca mwo mnu mte nba npl nen nnu nwr mwa mke mma mth mtr nra nik), (mla, .inl (cI, 40, .inl gla)), (msl, .inl (cI, 40, .inl gsl))] s.heap.size) [(zMO m0 npu nte i_0 nde nto nse nhu nga nsd nfa mrf mki mpa mta mla msl mco mhe mso msi msh mce mca mwo mnu mte nba npl nen nnu nwr mwa mke mma mth mtr nra nik), (mla, .inl (cI, 40, .inl gla)), (msl, .inl (cI, 40, .inl gsl))] := by rw [hi_0]; exact hD
  have h1i_0 : i_0.toInt = nat_.toInt := by rw [hi_0]
  obtain ⟨nfu, hni_0⟩ : ∃ nq9 : Nat, nte.toInt ≤ i_0.toInt + (nq9 : Int) := ⟨((nte.toInt : Int) - nat_.toInt).toNat, by omega⟩
  have hloi_0 : 0 ≤ i_0.toInt := by omega
  obtain ⟨v_1, hv_1⟩ : ∃ g : Int32, g = nsd := ⟨_, rfl⟩
  replace hP : va_P D vwCl [(zMO m0 npu nte i_0 nde nto nse nhu nga v_1 nfa mrf mki mpa mta mla msl mco mhe mso msi msh mce mca mwo mnu mte nba npl nen nnu nwr mwa mke mma mth mtr nra nik), (mla, .inl (cI, 40, .inl gla)), (msl, .inl (cI, 40, .inl gsl))] H := by rw [hv_1]; exact hP
  replace hD : va_D (va_A [(zMO m0 npu nte nat_ nde nto nse nhu nga nsd nfa mrf mki mpa mta mla msl mco mhe mso msi msh mce mca mwo mnu mte nba npl nen nnu nwr mwa mke mma mth mtr nra nik), (mla, .inl (cI, 40, .inl gla)), (msl, .inl (cI, 40, .inl gsl))] s.heap.size) [(zMO m0 npu nte i_0 nde nto nse nhu nga v_1 nfa mrf mki mpa mta mla msl mco mhe mso msi msh mce mca mwo mnu mte nba npl nen nnu nwr mwa mke mma mth mtr nra nik), (mla, .inl (cI, 40, .inl gla)), (msl, .inl (cI, 40, .inl gsl))] := by rw [hv_1]; exact hD
  have hvi_0_0 : i_0.toInt ≤ 40 := by
    (try rw [hi_0]); (try rw [hv_1]); omega
  clear h1i_0 hi_0 hv_1
  skip
  revert hni_0
  revert hloi_0
  revert hvi_0_0
  revert hl
  revert hS
  revert hD
  revert hP
  revert ls
  revert locs
  revert H
  revert v_1
  revert i_0
  induction nfu with
  | zero =>
    intro i_0 v_1 H locs ls hP hD hS hl hvi_0_0 hloi_0 hni_0
    have hzi_0 : nte.toInt ≤ i_0.toInt := by omega
    refine lv_aload_n hx hb dX8_closes_0 rfl (lv_at hl 0 rfl) ?_
    refine va_get (D := D) (ci := 8) (v := .int i_0) (C := RX8) (T := TX8) (N := 38) hx hb hts hi_X8_closes_8 hown hK hP 0 rfl rfl 2 (by decide) (hts (.fieldLink RX8 122 "TheLiningsInItModel" "at" "I") (List.mem_of_getElem? (i := 1) rfl)) (fun _ h9 => h9) rfl dX8_closes_1 ?_
    refine lv_aload_n hx hb dX8_closes_4 rfl (lv_at hl 0 rfl) ?_
    refine va_get (D := D) (ci := 8) (v := .int nte) (C := RX8) (T := TX8) (N := 38) hx hb hts hi_X8_closes_8 hown hK hP 0 rfl rfl 1 (by decide) (hts (.fieldLink RX8 7 "TheLiningsInItModel" "teeth" "I") (List.mem_of_getElem? (i := 2) rfl)) (fun _ h9 => h9) rfl dX8_closes_5 ?_
    refine lv_icmp_ge (tgt := 84) hx hb dX8_closes_8 (by decide) (fun c_2 => ?_) (fun c_2 => ?_)
    · have fc_2 : nte.toInt ≤ i_0.toInt := zf_le c_2 rfl rfl
      exact W.vret hx hb hr (fun t ht hW => ⟨⟨(i_0, nde, v_1), rfl, ⟨(show 0 ≤ i_0.toInt ∧ i_0.toInt ≤ 40 from ⟨by omega, by omega⟩), (show 0 ≤ nde.toInt ∧ nde.toInt ≤ 24 from ⟨hy6, hy7⟩), trivial⟩, zRet ht hP hD [0, 1, 2] (by decide) rfl⟩, hS.F ht⟩) hS.2.2 dX8_closes_84
    · exfalso; have fc_2 : i_0.toInt < nte.toInt := zf_nle c_2 rfl rfl; omega
  | succ nfu ih =>
    intro i_0 v_1 H locs ls hP hD hS hl hvi_0_0 hloi_0 hni_0
    refine lv_aload_n hx hb dX8_closes_0 rfl (lv_at hl 0 rfl) ?_
    refine va_get (D := D) (ci := 8) (v := .int i_0) (C := RX8) (T := TX8) (N := 38) hx hb hts hi_X8_closes_8 hown hK hP 0 rfl rfl 2 (by decide) (hts (.fieldLink RX8 122 "TheLiningsInItModel" "at" "I") (List.mem_of_getElem? (i := 1) rfl)) (fun _ h9 => h9) rfl dX8_closes_1 ?_
    refine lv_aload_n hx hb dX8_closes_4 rfl (lv_at hl 0 rfl) ?_
    refine va_get (D := D) (ci := 8) (v := .int nte) (C := RX8) (T := TX8) (N := 38) hx hb hts hi_X8_closes_8 hown hK hP 0 rfl rfl 1 (by decide) (hts (.fieldLink RX8 7 "TheLiningsInItModel" "teeth" "I") (List.mem_of_getElem? (i := 2) rfl)) (fun _ h9 => h9) rfl dX8_closes_5 ?_
    refine lv_icmp_ge (tgt := 84) hx hb dX8_closes_8 (by decide) (fun c_3 => ?_) (fun c_3 => ?_)
    · have fc_3 : nte.toInt ≤ i_0.toInt := zf_le c_3 rfl rfl
      exact W.vret hx hb hr (fun t ht hW => ⟨⟨(i_0, nde, v_1), rfl, ⟨(show 0 ≤ i_0.toInt ∧ i_0.toInt ≤ 40 from ⟨by omega, by omega⟩), (show 0 ≤ nde.toInt ∧ nde.toInt ≤ 24 from ⟨hy6, hy7⟩), trivial⟩, zRet ht hP hD [0, 1, 2] (by decide) rfl⟩, hS.F ht⟩) hS.2.2 dX8_closes_84
    · have fc_3 : i_0.toInt < nte.toInt := zf_nle c_3 rfl rfl
      refine lv_aload_n hx hb dX8_closes_11 rfl (lv_at hl 0 rfl) ?_
      refine lv_aload_n hx hb dX8_closes_12 rfl (lv_at hl 0 rfl) ?_
      refine va_get (D := D) (ci := 8) (v := .int i_0) (C := RX8) (T := TX8) (N := 38) hx hb hts hi_X8_closes_8 hown hK hP 0 rfl rfl 2 (by decide) (hts (.fieldLink RX8 122 "TheLiningsInItModel" "at" "I") (List.mem_of_getElem? (i := 1) rfl)) (fun _ h9 => h9) rfl dX8_closes_13 ?_
      refine zc_V (As := [.int i_0]) (rest := []) ⟨hx, hb, hml, hown, hts⟩ (c_M_isOpen l D cI cJ cZ cP cS po m0 mrf mki mpa mta mla msl mco mhe mso msi msh mce mca mwo mnu mte mwa mke mma mth mtr (npu) (nte) (i_0) (nde) (nto) (nse) (nhu) (nga) (v_1) (nfa) (nba) (npl) (nen) (nnu) (nwr) (nra) (nik) gla (i_0) hy0 hy1 hy2 hy3 (by omega) (by omega) hy6 hy7 hy8 hy9 hy10 hy11 hy12 hy13 (by omega) (by omega) hp_gla) (cwV 1 hts gX8_closes_X8_isOpen rfl rfl rfl ⟨rfl, dh_X8_isOpen⟩ ⟨Nat.le_of_ble_eq_true rfl, Nat.le_of_ble_eq_true rfl⟩) hK hN (hZ.kept hS) hP (hP.sub [0, 1] rfl) (va_recv (q := (RX8, TX8, 38)) hK hP (ci := 8) (q0 := 0) rfl rfl) rfl hl.1 rfl (Nat.le_of_ble_eq_true rfl) dX8_closes_16 ⟨Nat.le_of_ble_eq_true rfl, Nat.le_of_ble_eq_true rfl⟩ (fun r_4 hr_4 => ?_)
      obtain ⟨g_5, g_6⟩ := hr_4
      refine lv_if_ne (tgt := 84) hx hb dX8_closes_19 (by decide) (fun c_7 => ?_) (fun c_7 => ?_)
      · have fc_7 : r_4.toInt ≠ 0 := zf_ne c_7 rfl (by decide)
        exact W.vret hx hb hr (fun t ht hW => ⟨⟨(i_0, nde, v_1), rfl, ⟨(show 0 ≤ i_0.toInt ∧ i_0.toInt ≤ 40 from ⟨by omega, by omega⟩), (show 0 ≤ nde.toInt ∧ nde.toInt ≤ 24 from ⟨hy6, hy7⟩), trivial⟩, zRet ht hP hD [0, 1, 2] (by decide) rfl⟩, hS.F ht⟩) hS.2.2 dX8_closes_84
      · have fc_7 : r_4.toInt = 0 := zf_eq c_7 rfl (by decide)
        refine lv_aload_n hx hb dX8_closes_22 rfl (lv_at hl 0 rfl) ?_
        refine lv_aload_n hx hb dX8_closes_23 rfl (lv_at hl 0 rfl) ?_
        refine va_get (D := D) (ci := 8) (v := .int i_0) (C := RX8) (T := TX8) (N := 38) hx hb hts hi_X8_closes_8 hown hK hP 0 rfl rfl 2 (by decide) (hts (.fieldLink RX8 122 "TheLiningsInItModel" "at" "I") (List.mem_of_getElem? (i := 1) rfl)) (fun _ h9 => h9) rfl dX8_closes_24 ?_
        refine zc_V (As := [.int i_0]) (rest := []) ⟨hx, hb, hml, hown, hts⟩ (c_M_doesCatch l D cI cJ cZ cP cS po m0 mrf mki mpa mta mla msl mco mhe mso msi msh mce mca mwo mnu mte mwa mke mma mth mtr (npu) (nte) (i_0) (nde) (nto) (nse) (nhu) (nga) (v_1) (nfa) (nba) (npl) (nen) (nnu) (nwr) (nra) (nik) gla gsl (i_0) hy0 hy1 hy2 hy3 (by omega) (by omega) hy6 hy7 hy8 hy9 hy10 hy11 hy12 hy13 (by omega) (by omega) hp_gla hp_gsl) (cwV 1 hts gX8_closes_X8_doesCatch rfl rfl rfl ⟨rfl, dh_X8_doesCatch⟩ ⟨Nat.le_of_ble_eq_true rfl, Nat.le_of_ble_eq_true rfl⟩) hK hN (hZ.kept hS) hP (hP.sub [0, 1, 2] rfl) (va_recv (q := (RX8, TX8, 38)) hK hP (ci := 8) (q0 := 0) rfl rfl) rfl hl.1 rfl (Nat.le_of_ble_eq_true rfl) dX8_closes_27 ⟨Nat.le_of_ble_eq_true rfl, Nat.le_of_ble_eq_true rfl⟩ (fun r_8 hr_8 => ?_)
        obtain ⟨g_9, g_10⟩ := hr_8
        refine lv_if_eq (tgt := 71) hx hb dX8_closes_30 (by decide) (fun c_11 => ?_) (fun c_11 => ?_)
        · have fc_11 : r_8.toInt = 0 := zf_eq c_11 rfl (by decide)
          refine lv_aload_n hx hb dX8_closes_71 rfl (lv_at hl 0 rfl) ?_
          refine lv_dup hx hb dX8_closes_72 rfl ?_
          refine va_get (D := D) (ci := 8) (v := .int i_0) (C := RX8) (T := TX8) (N := 38) hx hb hts hi_X8_closes_8 hown hK hP 0 rfl rfl 2 (by decide) (hts (.fieldLink RX8 122 "TheLiningsInItModel" "at" "I") (List.mem_of_getElem? (i := 1) rfl)) (fun _ h9 => h9) rfl dX8_closes_73 ?_
          refine lv_iconst (v := 1) hx hb dX8_closes_76 (by decide) ?_
          refine lv_iadd hx hb dX8_closes_77 ?_
          refine lv_topi (fun x_12 ex_12 => ?_)
          have qx_12 : x_12.toInt = i_0.toInt + 1 := dw_inc ex_12 fc_3
          refine va_put (D := D) (ci := 8) (v := .int x_12) (ty := .int) (C := RX8) (T := TX8) (N := 38) hx hb hts hi_X8_closes_8 tyX8 tyX8_ok nmX8 hown hK hP hD hS 0 rfl rfl 2 (by decide) (hts (.fieldLink RX8 122 "TheLiningsInItModel" "at" "I") (List.mem_of_getElem? (i := 1) rfl)) (fun _ h9 => h9) rfl (tyX8_ok 2 (Nat.le_of_ble_eq_true rfl)) rfl rfl (Nat.le_of_ble_eq_true rfl) dX8_closes_78 (fun H locs hP hD hS => ?_)
          have h9R := zRe (ws' := [(zMO m0 npu nte x_12 nde nto nse nhu nga v_1 nfa mrf mki mpa mta mla msl mco mhe mso msi msh mce mca mwo mnu mte nba npl nen nnu nwr mwa mke mma mth mtr nra nik), (mla, .inl (cI, 40, .inl gla)), (msl, .inl (cI, 40, .inl gsl))]) hP hD rfl
          clear hP hD
          obtain ⟨hP, hD⟩ := h9R
          refine lv_goto (tgt := 0) hx hb dX8_closes_81 (by decide) ?_
          exact ih x_12 (v_1) _ _ _ (hP.sub [0, 1, 2] rfl) (hD.sub [0, 1, 2] (by decide) rfl) hS (lv_sub hl [0] rfl) (show x_12.toInt ≤ 40 from by omega) (dw_lo hloi_0 qx_12) (dw_hn hni_0 qx_12)
        · have fc_11 : r_8.toInt ≠ 0 := zf_ne c_11 rfl (by decide)
          refine lv_aload_n hx hb dX8_closes_33 rfl (lv_at hl 0 rfl) ?_
          refine lv_bipush (v := 10) hx hb dX8_closes_34 (by decide) ?_
          skip
          refine zw_V (As := [.int 10]) (rest := []) (wr := [(mla, .inl (cI, 40, .inl gla)), (msl, .inl (cI, 40, .inl gsl))]) ⟨hx, hb, hml, hown, hts⟩ (c_M_draw_10 l D cI cJ cZ cP cS po m0 mrf mki mpa mta mla msl mco mhe mso msi msh mce mca mwo mnu mte mwa mke mma mth mtr (npu) (nte) (i_0) (nde) (nto) (nse) (nhu) (nga) (v_1) (nfa) (nba) (npl) (nen) (nnu) (nwr) (nra) (nik) hy0 hy1 hy2 hy3 (by omega) (by omega) hy6 hy7 hy8 hy9 hy10 hy11 hy12 hy13 H.size) (cwV 1 hts gX8_closes_X8_draw rfl rfl rfl ⟨rfl, dh_X8_draw⟩ ⟨Nat.le_of_ble_eq_true rfl, Nat.le_of_ble_eq_true rfl⟩) hK hN (hZ.kept hS) hP hD hS hA [0] [1, 2] rfl rfl (by decide) (by decide) (by decide) (va_recv (q := (RX8, TX8, 38)) hK hP (ci := 8) (q0 := 0) rfl rfl) rfl hl.1 rfl (Nat.le_of_ble_eq_true rfl) dX8_closes_36 ⟨Nat.le_of_ble_eq_true rfl, Nat.le_of_ble_eq_true rfl⟩ (fun r_13 u_14 H locs hr_13 hP hD hS => ?_)
          obtain ⟨q_15, rfl⟩ : ∃ z, z = u_14 := ⟨_, rfl⟩
          have h9R := zRe (ws' := [(mla, .inl (cI, 40, .inl gla)), (msl, .inl (cI, 40, .inl gsl)), (zMO m0 npu nte i_0 nde nto nse nhu nga q_15 nfa mrf mki mpa mta mla msl mco mhe mso msi msh mce mca mwo mnu mte nba npl nen nnu nwr mwa mke mma mth mtr nra nik)]) hP hD rfl
          clear hP hD
          obtain ⟨hP, hD⟩ := h9R
          obtain ⟨g_16, g_17⟩ := hr_13
          refine lv_aload_n hx hb dX8_closes_39 rfl (lv_at hl 0 rfl) ?_
          refine va_get (D := D) (ci := 8) (v := .ref msl) (C := RX8) (T := TX8) (N := 38) hx hb hts hi_X8_closes_8 hown hK hP 2 rfl rfl 15 (by decide) (hts (.fieldLink RX8 41 "TheLiningsInItModel" "slack" "[I") (List.mem_of_getElem? (i := 3) rfl)) (fun _ h9 => h9) rfl dX8_closes_40 ?_
          refine lv_aload_n hx hb dX8_closes_43 rfl (lv_at hl 0 rfl) ?_
          refine va_get (D := D) (ci := 8) (v := .int i_0) (C := RX8) (T := TX8) (N := 38) hx hb hts hi_X8_closes_8 hown hK hP 2 rfl rfl 2 (by decide) (hts (.fieldLink RX8 122 "TheLiningsInItModel" "at" "I") (List.mem_of_getElem? (i := 1) rfl)) (fun _ h9 => h9) rfl dX8_closes_44 ?_
          refine va_iald hx hb hK hP 1 0 rfl rfl (zf_in (by omega) (by omega)) dX8_closes_47 ?_
          refine lv_topi (fun x_18 ex_18 => ?_)
          have bx_18 : 0 ≤ x_18.toInt ∧ x_18.toInt ≤ 9 := by rw [ex_18]; exact hp_gsl _
          refine lv_aload_n hx hb dX8_closes_48 rfl (lv_at hl 0 rfl) ?_
          refine va_get (D := D) (ci := 8) (v := .int nga) (C := RX8) (T := TX8) (N := 38) hx hb hts hi_X8_closes_8 hown hK hP 2 rfl rfl 7 (by decide) (hts (.fieldLink RX8 16 "TheLiningsInItModel" "gap" "I") (List.mem_of_getElem? (i := 4) rfl)) (fun _ h9 => h9) rfl dX8_closes_49 ?_
          refine lv_isub hx hb dX8_closes_52 ?_
          refine lv_topi (fun x_19 ex_19 => ?_)
          refine lv_iconst (v := 1) hx hb dX8_closes_53 (by decide) ?_
          refine lv_iadd hx hb dX8_closes_54 ?_
          refine lv_topi (fun x_20 ex_20 => ?_)
          refine lv_icmp_ge (tgt := 71) hx hb dX8_closes_55 (by decide) (fun c_21 => ?_) (fun c_21 => ?_)
          · have fc_21 : x_20.toInt ≤ r_13.toInt := zf_le c_21 rfl rfl
            refine lv_aload_n hx hb dX8_closes_71 rfl (lv_at hl 0 rfl) ?_
            refine lv_dup hx hb dX8_closes_72 rfl ?_
            refine va_get (D := D) (ci := 8) (v := .int i_0) (C := RX8) (T := TX8) (N := 38) hx hb hts hi_X8_closes_8 hown hK hP 2 rfl rfl 2 (by decide) (hts (.fieldLink RX8 122 "TheLiningsInItModel" "at" "I") (List.mem_of_getElem? (i := 1) rfl)) (fun _ h9 => h9) rfl dX8_closes_73 ?_
            refine lv_iconst (v := 1) hx hb dX8_closes_76 (by decide) ?_
            refine lv_iadd hx hb dX8_closes_77 ?_
            refine lv_topi (fun x_22 ex_22 => ?_)
            have qx_22 : x_22.toInt = i_0.toInt + 1 := dw_inc ex_22 fc_3
            refine va_put (D := D) (ci := 8) (v := .int x_22) (ty := .int) (C := RX8) (T := TX8) (N := 38) hx hb hts hi_X8_closes_8 tyX8 tyX8_ok nmX8 hown hK hP hD hS 2 rfl rfl 2 (by decide) (hts (.fieldLink RX8 122 "TheLiningsInItModel" "at" "I") (List.mem_of_getElem? (i := 1) rfl)) (fun _ h9 => h9) rfl (tyX8_ok 2 (Nat.le_of_ble_eq_true rfl)) rfl rfl (Nat.le_of_ble_eq_true rfl) dX8_closes_78 (fun H locs hP hD hS => ?_)
            have h9R := zRe (ws' := [(mla, .inl (cI, 40, .inl gla)), (msl, .inl (cI, 40, .inl gsl)), (zMO m0 npu nte x_22 nde nto nse nhu nga q_15 nfa mrf mki mpa mta mla msl mco mhe mso msi msh mce mca mwo mnu mte nba npl nen nnu nwr mwa mke mma mth mtr nra nik)]) hP hD rfl
            clear hP hD
            obtain ⟨hP, hD⟩ := h9R
            refine lv_goto (tgt := 0) hx hb dX8_closes_81 (by decide) ?_
            exact ih x_22 (q_15) _ _ _ (hP.sub [2, 0, 1] rfl) (hD.sub [2, 0, 1] (by decide) rfl) hS (lv_sub hl [0] rfl) (show x_22.toInt ≤ 40 from by omega) (dw_lo hloi_0 qx_22) (dw_hn hni_0 qx_22)
          · have fc_21 : r_13.toInt < x_20.toInt := zf_nle c_21 rfl rfl
            refine lv_aload_n hx hb dX8_closes_58 rfl (lv_at hl 0 rfl) ?_
            refine lv_iconst (v := 1) hx hb dX8_closes_59 (by decide) ?_
            refine lv_aload_n hx hb dX8_closes_60 rfl (lv_at hl 0 rfl) ?_
            refine lv_bipush (v := 6) hx hb dX8_closes_61 (by decide) ?_
            skip
            refine zw_V (As := [.int 6]) (rest := [.int 1, .ref m0]) (wr := [(mla, .inl (cI, 40, .inl gla)), (msl, .inl (cI, 40, .inl gsl))]) ⟨hx, hb, hml, hown, hts⟩ (c_M_draw_6 l D cI cJ cZ cP cS po m0 mrf mki mpa mta mla msl mco mhe mso msi msh mce mca mwo mnu mte mwa mke mma mth mtr (npu) (nte) (i_0) (nde) (nto) (nse) (nhu) (nga) (q_15) (nfa) (nba) (npl) (nen) (nnu) (nwr) (nra) (nik) hy0 hy1 hy2 hy3 (by omega) (by omega) hy6 hy7 hy8 hy9 hy10 hy11 hy12 hy13 H.size) (cwV 1 hts gX8_closes_X8_draw rfl rfl rfl ⟨rfl, dh_X8_draw⟩ ⟨Nat.le_of_ble_eq_true rfl, Nat.le_of_ble_eq_true rfl⟩) hK hN (hZ.kept hS) hP hD hS hA [2] [0, 1] rfl rfl (by decide) (by decide) (by decide) (va_recv (q := (RX8, TX8, 38)) hK hP (ci := 8) (q0 := 2) rfl rfl) rfl hl.1 rfl (Nat.le_of_ble_eq_true rfl) dX8_closes_63 ⟨Nat.le_of_ble_eq_true rfl, Nat.le_of_ble_eq_true rfl⟩ (fun r_23 u_24 H locs hr_23 hP hD hS => ?_)
            obtain ⟨q_25, rfl⟩ : ∃ z, z = u_24 := ⟨_, rfl⟩
            have h9R := zRe (ws' := [(mla, .inl (cI, 40, .inl gla)), (msl, .inl (cI, 40, .inl gsl)), (zMO m0 npu nte i_0 nde nto nse nhu nga q_25 nfa mrf mki mpa mta mla msl mco mhe mso msi msh mce mca mwo mnu mte nba npl nen nnu nwr mwa mke mma mth mtr nra nik)]) hP hD rfl
            clear hP hD
            obtain ⟨hP, hD⟩ := h9R
            obtain ⟨g_26, g_27⟩ := hr_23
            refine lv_iadd hx hb dX8_closes_66 ?_
            refine lv_topi (fun x_28 ex_28 => ?_)
            have qx_28 : x_28.toInt = 1 + r_23.toInt := by rw [ex_28]; exact zf_add (by decide) rfl (by omega) (by omega)
            refine va_put (D := D) (ci := 8) (v := .int x_28) (ty := .int) (C := RX8) (T := TX8) (N := 38) hx hb hts hi_X8_closes_8 tyX8 tyX8_ok nmX8 hown hK hP hD hS 2 rfl rfl 3 (by decide) (hts (.fieldLink RX8 115 "TheLiningsInItModel" "depth" "I") (List.mem_of_getElem? (i := 5) rfl)) (fun _ h9 => h9) rfl (tyX8_ok 3 (Nat.le_of_ble_eq_true rfl)) rfl rfl (Nat.le_of_ble_eq_true rfl) dX8_closes_67 (fun H locs hP hD hS => ?_)
            have h9R := zRe (ws' := [(mla, .inl (cI, 40, .inl gla)), (msl, .inl (cI, 40, .inl gsl)), (zMO m0 npu nte i_0 x_28 nto nse nhu nga q_25 nfa mrf mki mpa mta mla msl mco mhe mso msi msh mce mca mwo mnu mte nba npl nen nnu nwr mwa mke mma mth mtr nra nik)]) hP hD rfl
            clear hP hD
            obtain ⟨hP, hD⟩ := h9R
            exact W.vret hx hb hr (fun t ht hW => ⟨⟨(i_0, x_28, q_25), rfl, ⟨(show 0 ≤ i_0.toInt ∧ i_0.toInt ≤ 40 from ⟨by omega, by omega⟩), (show 0 ≤ x_28.toInt ∧ x_28.toInt ≤ 24 from ⟨by omega, by omega⟩), trivial⟩, zRet ht hP hD [2, 0, 1] (by decide) rfl⟩, hS.F ht⟩) hS.2.2 dX8_closes_70
theorem hi_X8_close_8 : ∀ w ∈ u_ws RX8 TX8 38, w ∈ wsX8_close := fun w h => (gl_X8_close_X80 w h).1
set_option maxHeartbeats 4000000 in
set_option maxRecDepth 100000 in
theorem c_M_close (l : Launch) (D : va_G) (cI cJ cZ cP cS : ClassId) (po : zPool) (m0 mrf mki mpa mta mla msl mco mhe mso msi msh mce mca mwo mnu mte mwa mke mma mth mtr : Nat) (npu nte nat_ nde nto nse nhu nga nsd nfa nba npl nen nnu nwr nra nik : Int32) (grf gla gsl : Nat → Int32) (hy0 : 0 ≤ npu.toInt) (hy1 : npu.toInt ≤ 8) (hy2 : 4 ≤ nte.toInt) (hy3 : nte.toInt ≤ 40) (hy4 : 0 ≤ nat_.toInt) (hy5 : nat_.toInt ≤ 40) (hy6 : 0 ≤ nde.toInt) (hy7 : nde.toInt ≤ 24) (hy8 : 0 ≤ nhu.toInt) (hy9 : nhu.toInt ≤ 9) (hy10 : 0 ≤ nra.toInt) (hy11 : nra.toInt ≤ 2000) (hy12 : 0 ≤ nik.toInt) (hy13 : nik.toInt ≤ 1) (hp_gla : zRg gla (0) 1) (hp_gsl : zRg gsl (0) 9) (hpz : Nat) : Met l yX8_close wsX8_close ({ frames := 2, cells := 0, slots := 0, locals := 41 }) (va_Pc [.ref m0] (zW D (zKT cI cJ cZ cP cS) po [(zMO m0 npu nte nat_ nde nto nse nhu nga nsd nfa mrf mki mpa mta mla msl mco mhe mso msi msh mce mca mwo mnu mte nba npl nen nnu nwr mwa mke mma mth mtr nra nik), (mrf, .inl (cI, 8, .inl grf)), (mla, .inl (cI, 40, .inl gla)), (msl, .inl (cI, 40, .inl gsl))] hpz)) (va_Qi (fun (r : Int32) (u : (Int32) × (Int32) × (Int32) × (Nat → Int32)) => (0 ≤ u.1.toInt ∧ u.1.toInt ≤ 40) ∧ (0 ≤ u.2.1.toInt ∧ u.2.1.toInt ≤ 24) ∧ (True)) (zB D [(zMO m0 npu nte nat_ nde nto nse nhu nga nsd nfa mrf mki mpa mta mla msl mco mhe mso msi msh mce mca mwo mnu mte nba npl nen nnu nwr mwa mke mma mth mtr nra nik), (mrf, .inl (cI, 8, .inl grf)), (mla, .inl (cI, 40, .inl gla)), (msl, .inl (cI, 40, .inl gsl))] hpz (fun (u : (Int32) × (Int32) × (Int32) × (Nat → Int32)) => [(zMO m0 npu nte u.1 u.2.1 nto nse nhu nga u.2.2.1 nfa mrf mki mpa mta mla msl mco mhe mso msi msh mce mca mwo mnu mte nba npl nen nnu nwr mwa mke mma mth mtr nra nik), (mrf, .inl (cI, 8, .inl u.2.2.2)), (mla, .inl (cI, 40, .inl gla)), (msl, .inl (cI, 40, .inl gsl))])) (va_A [(zMO m0 npu nte nat_ nde nto nse nhu nga nsd nfa mrf mki mpa mta mla msl mco mhe mso msi msh mce mca mwo mnu mte nba npl nen nnu nwr mwa mke mma mth mtr nra nik), (mrf, .inl (cI, 8, .inl grf)), (mla, .inl (cI, 40, .inl gla)), (msl, .inl (cI, 40, .inl gsl))] hpz)) 0 0 (va_A [(zMO m0 npu nte nat_ nde nto nse nhu nga nsd nfa mrf mki mpa mta mla msl mco mhe mso msi msh mce mca mwo mnu mte nba npl nen nnu nwr mwa mke mma mth mtr nra nik), (mrf, .inl (cI, 8, .inl grf)), (mla, .inl (cI, 40, .inl gla)), (msl, .inl (cI, 40, .inl gsl))] hpz) := by
  refine Met.ofW (cc := cX8_close) (maxL := 1) (ret := (some .int)) (by decide) rfl ?_
  intro p e s m args below meth c s₁ B hml hv
  obtain ⟨rfl, hsz, hP, hK, hD0, hN, hZ⟩ := hv
  have hx := B.exec
  have hb := B.bytes
  have hr := B.returns
  have hts := atoms_spec (ws := wsX8_close) B.pre
  have hown : s.vm.findClass RX8 = some m.cls := findClass_of_methodNamed B.named
  have hlocks := B.notSynchronized
  subst hsz
  have hD := hD0.self (sz := s.heap.size)
  have hA := zA_of hD
  have hl := lv_entry ([.ref m0]) (n := 1) (Nat.le_of_ble_eq_true rfl)
  rw [lg_entry_eq]
  generalize (lg_sl ([.ref m0]) ++ List.replicate (1 - (lg_sl ([.ref m0])).length) Slot.unset).toArray = ls at hl ⊢
  replace hl : lv_has ls 1 [(0, .ref m0)] := hl
  refine zw_begin hP hD (fun H locs hP1 hS => ?_)
  clear hP
  have hP := hP1
  clear hP1
  refine lv_aload_n hx hb dX8_close_0 rfl (lv_at hl 0 rfl) ?_
  refine va_get (D := D) (ci := 8) (v := .int nde) (C := RX8) (T := TX8) (N := 38) hx hb hts hi_X8_close_8 hown hK hP 0 rfl rfl 3 (by decide) (hts (.fieldLink RX8 115 "TheLiningsInItModel" "depth" "I") (List.mem_of_getElem? (i := 1) rfl)) (fun _ h9 => h9) rfl dX8_close_1 ?_
  refine lv_if_eq (tgt := 14) hx hb dX8_close_4 (by decide) (fun c_1 => ?_) (fun c_1 => ?_)
  · have fc_1 : nde.toInt = 0 := zf_eq c_1 rfl (by decide)
    refine lv_aload_n hx hb dX8_close_14 rfl (lv_at hl 0 rfl) ?_
    skip
    refine zw_Vv (As := []) (rest := []) (wr := [(mrf, .inl (cI, 8, .inl grf))]) ⟨hx, hb, hml, hown, hts⟩ (c_M_closes l D cI cJ cZ cP cS po m0 mrf mki mpa mta mla msl mco mhe mso msi msh mce mca mwo mnu mte mwa mke mma mth mtr (npu) (nte) (nat_) (nde) (nto) (nse) (nhu) (nga) (nsd) (nfa) (nba) (npl) (nen) (nnu) (nwr) (nra) (nik) gla gsl hy0 hy1 hy2 hy3 hy4 hy5 hy6 hy7 hy8 hy9 hy10 hy11 hy12 hy13 hp_gla hp_gsl H.size) (cwV 0 hts gX8_close_X8_closes rfl rfl rfl ⟨rfl, dh_X8_closes⟩ ⟨Nat.le_of_ble_eq_true rfl, Nat.le_of_ble_eq_true rfl⟩) hK hN (hZ.kept hS) hP hD hS hA [0, 2, 3] [1] rfl rfl (by decide) (by decide) (by decide) (va_recv (q := (RX8, TX8, 38)) hK hP (ci := 8) (q0 := 0) rfl rfl) rfl hl.1 rfl (Nat.le_of_ble_eq_true rfl) dX8_close_15 ⟨Nat.le_of_ble_eq_true rfl, Nat.le_of_ble_eq_true rfl⟩ (fun u_3 H locs hr_2 hP hD hS => ?_)
    obtain ⟨q_4, q_5, q_6⟩ := u_3
    try dsimp only at hr_2
    obtain ⟨hbq_4, hbq_5, hr_2⟩ := hr_2
    have h9R := zRe (ws' := [(mrf, .inl (cI, 8, .inl grf)), (zMO m0 npu nte q_4 q_5 nto nse nhu nga q_6 nfa mrf mki mpa mta mla msl mco mhe mso msi msh mce mca mwo mnu mte nba npl nen nnu nwr mwa mke mma mth mtr nra nik), (mla, .inl (cI, 40, .inl gla)), (msl, .inl (cI, 40, .inl gsl))]) hP hD rfl
    clear hP hD
    obtain ⟨hP, hD⟩ := h9R
    refine lv_aload_n hx hb dX8_close_18 rfl (lv_at hl 0 rfl) ?_
    refine va_get (D := D) (ci := 8) (v := .int q_4) (C := RX8) (T := TX8) (N := 38) hx hb hts hi_X8_close_8 hown hK hP 1 rfl rfl 2 (by decide) (hts (.fieldLink RX8 122 "TheLiningsInItModel" "at" "I") (List.mem_of_getElem? (i := 2) rfl)) (fun _ h9 => h9) rfl dX8_close_19 ?_
    exact W.iret (v := q_4) hx hb hr (fun t ht hW => ⟨⟨q_4, (q_4, q_5, q_6, grf), rfl, ⟨(show 0 ≤ q_4.toInt ∧ q_4.toInt ≤ 40 from hbq_4), (show 0 ≤ q_5.toInt ∧ q_5.toInt ≤ 24 from hbq_5), trivial⟩, zRet ht hP hD [1, 0, 2, 3] (by decide) rfl⟩, hS.F ht⟩) hS.2.2 dX8_close_22
  · have fc_1 : nde.toInt ≠ 0 := zf_ne c_1 rfl (by decide)
    refine lv_aload_n hx hb dX8_close_7 rfl (lv_at hl 0 rfl) ?_
    refine lv_bipush (v := (-6)) hx hb dX8_close_8 (by decide) ?_
    skip
    refine zw_V (As := [.int (-6)]) (rest := []) (wr := [(mla, .inl (cI, 40, .inl gla)), (msl, .inl (cI, 40, .inl gsl))]) ⟨hx, hb, hml, hown, hts⟩ (c_M_no_6 l D cI cJ cZ cP cS po m0 mrf mki mpa mta mla msl mco mhe mso msi msh mce mca mwo mnu mte mwa mke mma mth mtr (npu) (nte) (nat_) (nde) (nto) (nse) (nhu) (nga) (nsd) (nfa) (nba) (npl) (nen) (nnu) (nwr) (nra) (nik) grf hy0 hy1 hy2 hy3 hy4 hy5 hy6 hy7 hy8 hy9 hy10 hy11 hy12 hy13 H.size) (cwV 1 hts gX8_close_X8_no rfl rfl rfl ⟨rfl, dh_X8_no⟩ ⟨Nat.le_of_ble_eq_true rfl, Nat.le_of_ble_eq_true rfl⟩) hK hN (hZ.kept hS) hP hD hS hA [0, 1] [2, 3] rfl rfl (by decide) (by decide) (by decide) (va_recv (q := (RX8, TX8, 38)) hK hP (ci := 8) (q0 := 0) rfl rfl) rfl hl.1 rfl (Nat.le_of_ble_eq_true rfl) dX8_close_10 ⟨Nat.le_of_ble_eq_true rfl, Nat.le_of_ble_eq_true rfl⟩ (fun r_7 u_8 H locs hr_7 hP hD hS => ?_)
    obtain ⟨q_9, rfl⟩ : ∃ z, z = u_8 := ⟨_, rfl⟩
    have h9R := zRe (ws' := [(mla, .inl (cI, 40, .inl gla)), (msl, .inl (cI, 40, .inl gsl)), (zMO m0 npu nte nat_ nde nto nse nhu nga nsd nfa mrf mki mpa mta mla msl mco mhe mso msi msh mce mca mwo mnu mte nba npl nen nnu nwr mwa mke mma mth mtr nra nik), (mrf, .inl (cI, 8, .inl q_9))]) hP hD rfl
    clear hP hD
    obtain ⟨hP, hD⟩ := h9R
    obtain rfl := hr_7
    exact W.iret (v := (-6)) hx hb hr (fun t ht hW => ⟨⟨(-6), (nat_, nde, nsd, q_9), rfl, ⟨(show 0 ≤ nat_.toInt ∧ nat_.toInt ≤ 40 from ⟨hy4, hy5⟩), (show 0 ≤ nde.toInt ∧ nde.toInt ≤ 24 from ⟨hy6, hy7⟩), trivial⟩, zRet ht hP hD [2, 3, 0, 1] (by decide) rfl⟩, hS.F ht⟩) hS.2.2 dX8_close_13
set_option maxHeartbeats 4000000 in
set_option maxRecDepth 100000 in
theorem c_M_mayBe_x (l : Launch) (D : va_G) (cI cJ cZ cP cS : ClassId) (po : zPool) (m0 mrf mki mpa mta mla msl mco mhe mso msi msh mce mca mwo mnu mte mwa mke mma mth mtr : Nat) (npu nte nat_ nde nto nse nhu nga nsd nfa nba npl nen nnu nwr nra nik : Int32) (gta : Nat → Int32) (p_ d sec : Int32) (hy0 : 0 ≤ npu.toInt) (hy1 : npu.toInt ≤ 8) (hy2 : 4 ≤ nte.toInt) (hy3 : nte.toInt ≤ 40) (hy4 : 0 ≤ nat_.toInt) (hy5 : nat_.toInt ≤ 40) (hy6 : 0 ≤ nde.toInt) (hy7 : nde.toInt ≤ 24) (hy8 : 0 ≤ nhu.toInt) (hy9 : nhu.toInt ≤ 9) (hy10 : 0 ≤ nra.toInt) (hy11 : nra.toInt ≤ 2000) (hy12 : 0 ≤ nik.toInt) (hy13 : nik.toInt ≤ 1) (hy14 : 0 ≤ p_.toInt) (hy15 : p_.toInt ≤ 7) (hp_gta : zRg gta (0) 60) : Met l yX8_mayBe wsX8_mayBe ({ frames := 0, cells := 0, slots := 0, locals := 0 }) (va_Pc [.ref m0, .int p_, .int d, .int sec] (zR D (zKT cI cJ cZ cP cS) po [(zMO m0 npu nte nat_ nde nto nse nhu nga nsd nfa mrf mki mpa mta mla msl mco mhe mso msi msh mce mca mwo mnu mte nba npl nen nnu nwr mwa mke mma mth mtr nra nik), (mta, .inl (cI, 8, .inl gta))])) (vp_Si (fun r => 0 ≤ r.toInt ∧ r.toInt ≤ 1 ∧ ((r.toInt = 1 ↔ (1 ≤ d.toInt ∧ (gta p_.toNatClampNeg).toInt ≤ sec.toInt))))) 0 0 (fun _ => False) := by
  refine Met.ofW (cc := cX8_mayBe) (maxL := 4) (ret := (some .boolean)) (by decide) rfl ?_
  intro p e s m args below meth c s₁ B hml hv
  obtain ⟨rfl, hP, hK, hN, hZ⟩ := hv
  have hx := B.exec
  have hb := B.bytes
  have hr := B.returns
  have hts := atoms_spec (ws := wsX8_mayBe) B.pre
  have hown : s.vm.findClass RX8 = some m.cls := findClass_of_methodNamed B.named
  have hlocks := B.notSynchronized
  have hl := lv_entry ([.ref m0, .int p_, .int d, .int sec]) (n := 4) (Nat.le_of_ble_eq_true rfl)
  rw [lg_entry_eq]
  generalize (lg_sl ([.ref m0, .int p_, .int d, .int sec]) ++ List.replicate (4 - (lg_sl ([.ref m0, .int p_, .int d, .int sec])).length) Slot.unset).toArray = ls at hl ⊢
  replace hl : lv_has ls 4 [(0, .ref m0), (1, .int p_), (2, .int d), (3, .int sec)] := hl
  refine lv_iload_n hx hb dX8_mayBe_0 rfl (lv_at hl 2 rfl) ?_
  refine lv_iconst (v := 1) hx hb dX8_mayBe_1 (by decide) ?_
  refine lv_icmp_lt (tgt := 19) hx hb dX8_mayBe_2 (by decide) (fun c_1 => ?_) (fun c_1 => ?_)
  · have fc_1 : d.toInt < 1 := zf_lt c_1 rfl (by decide)
    refine lv_iconst (v := 0) hx hb dX8_mayBe_19 (by decide) ?_
    exact W.zret (v := 0) hx hb hr (by decide) (fun t ht hW => ⟨0, rfl, ⟨by decide, by decide, (show ((0 : Int32).toInt = 1 ↔ (1 ≤ d.toInt ∧ (gta p_.toNatClampNeg).toInt ≤ sec.toInt)) from by (have k9 : (0 : Int32).toInt = 0 := (by decide); omega))⟩, ht⟩) (fun q hq => by cases hq) dX8_mayBe_20
  · have fc_1 : 1 ≤ d.toInt := zf_nlt c_1 rfl (by decide)
    refine lv_iload_n hx hb dX8_mayBe_5 rfl (lv_at hl 3 rfl) ?_
    refine lv_aload_n hx hb dX8_mayBe_6 rfl (lv_at hl 0 rfl) ?_
    refine va_get (D := D) (ci := 8) (v := .ref mta) (C := RX8) (T := TX8) (N := 38) hx hb hts hi_X8_mayBe_8 hown hK hP 0 rfl rfl 13 (by decide) (hts (.fieldLink RX8 35 "TheLiningsInItModel" "takes" "[I") (List.mem_of_getElem? (i := 1) rfl)) (fun _ h9 => h9) rfl dX8_mayBe_7 ?_
    refine lv_iload_n hx hb dX8_mayBe_10 rfl (lv_at hl 1 rfl) ?_
    refine va_iald hx hb hK hP 1 0 rfl rfl (zf_in (by omega) (by omega)) dX8_mayBe_11 ?_
    refine lv_topi (fun x_2 ex_2 => ?_)
    have bx_2 : 0 ≤ x_2.toInt ∧ x_2.toInt ≤ 60 := by rw [ex_2]; exact hp_gta _
    refine lv_icmp_lt (tgt := 19) hx hb dX8_mayBe_12 (by decide) (fun c_3 => ?_) (fun c_3 => ?_)
    · have fc_3 : sec.toInt < x_2.toInt := zf_lt c_3 rfl rfl
      refine lv_iconst (v := 0) hx hb dX8_mayBe_19 (by decide) ?_
      exact W.zret (v := 0) hx hb hr (by decide) (fun t ht hW => ⟨0, rfl, ⟨by decide, by decide, (show ((0 : Int32).toInt = 1 ↔ (1 ≤ d.toInt ∧ (gta p_.toNatClampNeg).toInt ≤ sec.toInt)) from by (have k9 : (0 : Int32).toInt = 0 := (by decide); rw [← ex_2]; omega))⟩, ht⟩) (fun q hq => by cases hq) dX8_mayBe_20
    · have fc_3 : x_2.toInt ≤ sec.toInt := zf_nlt c_3 rfl rfl
      refine lv_iconst (v := 1) hx hb dX8_mayBe_15 (by decide) ?_
      refine lv_goto (tgt := 20) hx hb dX8_mayBe_16 (by decide) ?_
      exact W.zret (v := 1) hx hb hr (by decide) (fun t ht hW => ⟨1, rfl, ⟨by decide, by decide, (show ((1 : Int32).toInt = 1 ↔ (1 ≤ d.toInt ∧ (gta p_.toNatClampNeg).toInt ≤ sec.toInt)) from by (have k9 : (1 : Int32).toInt = 1 := (by decide); rw [← ex_2]; omega))⟩, ht⟩) (fun q hq => by cases hq) dX8_mayBe_20
set_option maxHeartbeats 4000000 in
set_option maxRecDepth 100000 in
theorem c_M_nextOf_2x (l : Launch) (D : va_G) (cI cJ cZ cP cS : ClassId) (po : zPool) (m0 mrf mki mpa mta mla msl mco mhe mso msi msh mce mca mwo mnu mte mwa mke mma mth mtr : Nat) (npu nte nat_ nde nto nse nhu nga nsd nfa nba npl nen nnu nwr nra nik : Int32) (gki gpa gta : Nat → Int32) (hy0 : 0 ≤ npu.toInt) (hy1 : npu.toInt ≤ 8) (hy2 : 4 ≤ nte.toInt) (hy3 : nte.toInt ≤ 40) (hy4 : 0 ≤ nat_.toInt) (hy5 : nat_.toInt ≤ 40) (hy6 : 0 ≤ nde.toInt) (hy7 : nde.toInt ≤ 24) (hy8 : 0 ≤ nhu.toInt) (hy9 : nhu.toInt ≤ 9) (hy10 : 0 ≤ nra.toInt) (hy11 : nra.toInt ≤ 2000) (hy12 : 0 ≤ nik.toInt) (hy13 : nik.toInt ≤ 1) (hp_gki : zRg gki (0) 6) (hp_gpa : zRg gpa (0) 9) (hp_gta : zRg gta (0) 60) : Met l yX8_nextOf wsX8_nextOf ({ frames := 5, cells := 0, slots := 0, locals := 129 }) (va_Pc [.ref m0, .int 2] (zR D (zKT cI cJ cZ cP cS) po [(zMO m0 npu nte nat_ nde nto nse nhu nga nsd nfa mrf mki mpa mta mla msl mco mhe mso msi msh mce mca mwo mnu mte nba npl nen nnu nwr mwa mke mma mth mtr nra nik), (mki, .inl (cI, 8, .inl gki)), (mpa, .inl (cI, 8, .inl gpa)), (mta, .inl (cI, 8, .inl gta))])) (vp_Si (fun r => -1 ≤ r.toInt ∧ r.toInt ≤ 7 ∧ ((r.toInt = -1 → ∀ j : Nat, (j : Int) < npu.toInt → ¬ (1 ≤ nde.toInt ∧ (gta j).toInt ≤ nse.toInt)) ∧ (r.toInt ≠ -1 → ∃ j : Nat, (j : Int) < npu.toInt ∧ 1 ≤ nde.toInt ∧ (gta j).toInt ≤ nse.toInt)))) 0 0 (fun _ => False) := by
  refine Met.ofW (cc := cX8_nextOf) (maxL := 6) (ret := (some .int)) (by decide) rfl ?_
  intro p e s m args below meth c s₁ B hml hv
  obtain ⟨rfl, hP, hK, hN, hZ⟩ := hv
  have hx := B.exec
  have hb := B.bytes
  have hr := B.returns
  have hts := atoms_spec (ws := wsX8_nextOf) B.pre
  have hown : s.vm.findClass RX8 = some m.cls := findClass_of_methodNamed B.named
  have hlocks := B.notSynchronized
  have hl := lv_entry ([.ref m0, .int 2]) (n := 6) (Nat.le_of_ble_eq_true rfl)
  rw [lg_entry_eq]
  generalize (lg_sl ([.ref m0, .int 2]) ++ List.replicate (6 - (lg_sl ([.ref m0, .int 2])).length) Slot.unset).toArray = ls at hl ⊢
  replace hl : lv_has ls 6 [(0, .ref m0), (1, .int 2)] := hl
  refine lv_iconst (v := (-1)) hx hb dX8_nextOf_0 (by decide) ?_
  refine lv_istore_n (lv' := [(2, .int (-1)), (0, .ref m0), (1, .int 2)]) hx hb dX8_nextOf_1 rfl hl (by decide) rfl (fun ls hl => ?_)
  refine lv_iconst (v := 0) hx hb dX8_nextOf_2 (by decide) ?_
  refine lv_istore_n (lv' := [(3, .int 0), (2, .int (-1)), (0, .ref m0), (1, .int 2)]) hx hb dX8_nextOf_3 rfl hl (by decide) rfl (fun ls hl => ?_)
  refine lv_iconst (v := 0) hx hb dX8_nextOf_4 (by decide) ?_
  refine lv_istore (lv' := [(4, .int 0), (3, .int 0), (2, .int (-1)), (0, .ref m0), (1, .int 2)]) hx hb dX8_nextOf_5 hl (by decide) rfl (fun ls hl => ?_)
  obtain ⟨i_7, hi_7⟩ : ∃ i : Int32, i = 0 := ⟨_, rfl⟩
  replace hl : lv_has ls 6 [(4, .int i_7), (3, .int 0), (2, .int (-1)), (0, .ref m0), (1, .int 2)] := by rw [hi_7]; exact lv_sub hl [0, 1, 2, 3, 4] rfl
  have h1i_7 : i_7.toInt = 0 := by rw [hi_7]; decide
  obtain ⟨nfu, hni_7⟩ : ∃ nq9 : Nat, npu.toInt ≤ i_7.toInt + (nq9 : Int) := ⟨((npu.toInt : Int) - 0).toNat, by omega⟩
  have hloi_7 : 0 ≤ i_7.toInt := by omega
  obtain ⟨v_1, hv_1⟩ : ∃ g : Int32, g = (-1) := ⟨_, rfl⟩
  obtain ⟨v_2, hv_2⟩ : ∃ g : Int32, g = 0 := ⟨_, rfl⟩
  replace hl : lv_has ls 6 [(4, .int i_7), (3, .int v_2), (2, .int v_1), (0, .ref m0), (1, .int 2)] := by rw [hv_1, hv_2]; exact hl
  have hbv_1 : -1 ≤ v_1.toInt ∧ v_1.toInt ≤ 7 := by rw [hv_1]; exact ⟨by decide, by decide⟩
  have hvi_7_0 : ((v_1 : Int32).toInt = -1 → ∀ j : Nat, (j : Int) < i_7.toInt → ¬ (1 ≤ nde.toInt ∧ (gta j).toInt ≤ nse.toInt)) ∧ ((v_1 : Int32).toInt ≠ -1 → ∃ j : Nat, (j : Int) < npu.toInt ∧ 1 ≤ nde.toInt ∧ (gta j).toInt ≤ nse.toInt) := by
    (try rw [hi_7]); (try rw [hv_1]); (try rw [hv_2]); (refine ⟨fun _ j hj => ?_, fun h => absurd (show ((-1) : Int32).toInt = -1 from by decide) h⟩; exfalso; have k0 : (0 : Int32).toInt = 0 := (by decide); omega)
  clear h1i_7 hi_7 hv_1 hv_2
  revert hni_7
  revert hloi_7
  revert hvi_7_0
  revert hbv_1
  revert hl
  revert ls
  revert v_2
  revert v_1
  revert i_7
  induction nfu with
  | zero =>
    intro i_7 v_1 v_2 ls hl hbv_1 hvi_7_0 hloi_7 hni_7
    have hzi_7 : npu.toInt ≤ i_7.toInt := by omega
    refine lv_iload hx hb dX8_nextOf_7 (lv_at hl 0 rfl) ?_
    refine lv_aload_n hx hb dX8_nextOf_9 rfl (lv_at hl 3 rfl) ?_
    refine va_get (D := D) (ci := 8) (v := .int npu) (C := RX8) (T := TX8) (N := 38) hx hb hts hi_X8_nextOf_8 hown hK hP 0 rfl rfl 0 (by decide) (hts (.fieldLink RX8 90 "TheLiningsInItModel" "pulls" "I") (List.mem_of_getElem? (i := 1) rfl)) (fun _ h9 => h9) rfl dX8_nextOf_10 ?_
    refine lv_icmp_ge (tgt := 84) hx hb dX8_nextOf_13 (by decide) (fun c_3 => ?_) (fun c_3 => ?_)
    · have fc_3 : npu.toInt ≤ i_7.toInt := zf_le c_3 rfl rfl
      refine lv_iload_n hx hb dX8_nextOf_84 rfl (lv_at hl 2 rfl) ?_
      exact W.iret (v := v_1) hx hb hr (fun t ht hW => ⟨v_1, rfl, ⟨by omega, by omega, (show ((v_1 : Int32).toInt = -1 → ∀ j : Nat, (j : Int) < npu.toInt → ¬ (1 ≤ nde.toInt ∧ (gta j).toInt ≤ nse.toInt)) ∧ ((v_1 : Int32).toInt ≠ -1 → ∃ j : Nat, (j : Int) < npu.toInt ∧ 1 ≤ nde.toInt ∧ (gta j).toInt ≤ nse.toInt) from by exact ⟨fun h j hj => hvi_7_0.1 h j (by omega), hvi_7_0.2⟩)⟩, ht⟩) (fun q hq => by cases hq) dX8_nextOf_85
    · exfalso; have fc_3 : i_7.toInt < npu.toInt := zf_nle c_3 rfl rfl; omega
  | succ nfu ih =>
    intro i_7 v_1 v_2 ls hl hbv_1 hvi_7_0 hloi_7 hni_7
    refine lv_iload hx hb dX8_nextOf_7 (lv_at hl 0 rfl) ?_
    refine lv_aload_n hx hb dX8_nextOf_9 rfl (lv_at hl 3 rfl) ?_
    refine va_get (D := D) (ci := 8) (v := .int npu) (C := RX8) (T := TX8) (N := 38) hx hb hts hi_X8_nextOf_8 hown hK hP 0 rfl rfl 0 (by decide) (hts (.fieldLink RX8 90 "TheLiningsInItModel" "pulls" "I") (List.mem_of_getElem? (i := 1) rfl)) (fun _ h9 => h9) rfl dX8_nextOf_10 ?_
    refine lv_icmp_ge (tgt := 84) hx hb dX8_nextOf_13 (by decide) (fun c_4 => ?_) (fun c_4 => ?_)
    · have fc_4 : npu.toInt ≤ i_7.toInt := zf_le c_4 rfl rfl
      refine lv_iload_n hx hb dX8_nextOf_84 rfl (lv_at hl 2 rfl) ?_
      exact W.iret (v := v_1) hx hb hr (fun t ht hW => ⟨v_1, rfl, ⟨by omega, by omega, (show ((v_1 : Int32).toInt = -1 → ∀ j : Nat, (j : Int) < npu.toInt → ¬ (1 ≤ nde.toInt ∧ (gta j).toInt ≤ nse.toInt)) ∧ ((v_1 : Int32).toInt ≠ -1 → ∃ j : Nat, (j : Int) < npu.toInt ∧ 1 ≤ nde.toInt ∧ (gta j).toInt ≤ nse.toInt) from by exact ⟨fun h j hj => hvi_7_0.1 h j (by omega), hvi_7_0.2⟩)⟩, ht⟩) (fun q hq => by cases hq) dX8_nextOf_85
    · have fc_4 : i_7.toInt < npu.toInt := zf_nle c_4 rfl rfl
      refine lv_iload_n hx hb dX8_nextOf_16 rfl (lv_at hl 4 rfl) ?_
      refine lv_if_le (tgt := 84) hx hb dX8_nextOf_17 (by decide) (fun c_5 => ?_) (fun c_5 => ?_)
      · exact absurd c_5 (by decide)
      · refine lv_aload_n hx hb dX8_nextOf_20 rfl (lv_at hl 3 rfl) ?_
        refine lv_iload hx hb dX8_nextOf_21 (lv_at hl 0 rfl) ?_
        refine lv_aload_n hx hb dX8_nextOf_23 rfl (lv_at hl 3 rfl) ?_
        refine va_get (D := D) (ci := 8) (v := .int nde) (C := RX8) (T := TX8) (N := 38) hx hb hts hi_X8_nextOf_8 hown hK hP 0 rfl rfl 3 (by decide) (hts (.fieldLink RX8 115 "TheLiningsInItModel" "depth" "I") (List.mem_of_getElem? (i := 2) rfl)) (fun _ h9 => h9) rfl dX8_nextOf_24 ?_
        refine lv_aload_n hx hb dX8_nextOf_27 rfl (lv_at hl 3 rfl) ?_
        refine va_get (D := D) (ci := 8) (v := .int nse) (C := RX8) (T := TX8) (N := 38) hx hb hts hi_X8_nextOf_8 hown hK hP 0 rfl rfl 5 (by decide) (hts (.fieldLink RX8 13 "TheLiningsInItModel" "seconds" "I") (List.mem_of_getElem? (i := 3) rfl)) (fun _ h9 => h9) rfl dX8_nextOf_28 ?_
        refine zc_V (As := [.int i_7, .int nde, .int nse]) (rest := []) ⟨hx, hb, hml, hown, hts⟩ (c_M_mayBe_x l D cI cJ cZ cP cS po m0 mrf mki mpa mta mla msl mco mhe mso msi msh mce mca mwo mnu mte mwa mke mma mth mtr (npu) (nte) (nat_) (nde) (nto) (nse) (nhu) (nga) (nsd) (nfa) (nba) (npl) (nen) (nnu) (nwr) (nra) (nik) gta (i_7) (nde) (nse) hy0 hy1 hy2 hy3 hy4 hy5 hy6 hy7 hy8 hy9 hy10 hy11 hy12 hy13 (by omega) (by omega) hp_gta) (cwV 3 hts gX8_nextOf_X8_mayBe rfl rfl rfl ⟨rfl, dh_X8_mayBe⟩ ⟨Nat.le_of_ble_eq_true rfl, Nat.le_of_ble_eq_true rfl⟩) hK hN hZ hP (hP.sub [0, 3] rfl) (va_recv (q := (RX8, TX8, 38)) hK hP (ci := 8) (q0 := 0) rfl rfl) rfl hl.1 rfl (Nat.le_of_ble_eq_true rfl) dX8_nextOf_31 ⟨Nat.le_of_ble_eq_true rfl, Nat.le_of_ble_eq_true rfl⟩ (fun r_6 hr_6 => ?_)
        obtain ⟨g_7, g_8, hsr_6_0⟩ := hr_6
        refine lv_if_ne (tgt := 40) hx hb dX8_nextOf_34 (by decide) (fun c_9 => ?_) (fun c_9 => ?_)
        · have fc_9 : r_6.toInt ≠ 0 := zf_ne c_9 rfl (by decide)
          refine lv_aload_n hx hb dX8_nextOf_40 rfl (lv_at hl 3 rfl) ?_
          refine lv_iload hx hb dX8_nextOf_41 (lv_at hl 0 rfl) ?_
          refine lv_iload_n hx hb dX8_nextOf_43 rfl (lv_at hl 4 rfl) ?_
          refine lv_aload_n hx hb dX8_nextOf_44 rfl (lv_at hl 3 rfl) ?_
          refine va_get (D := D) (ci := 8) (v := .int nde) (C := RX8) (T := TX8) (N := 38) hx hb hts hi_X8_nextOf_8 hown hK hP 0 rfl rfl 3 (by decide) (hts (.fieldLink RX8 115 "TheLiningsInItModel" "depth" "I") (List.mem_of_getElem? (i := 2) rfl)) (fun _ h9 => h9) rfl dX8_nextOf_45 ?_
          refine lv_aload_n hx hb dX8_nextOf_48 rfl (lv_at hl 3 rfl) ?_
          refine va_get (D := D) (ci := 8) (v := .int nse) (C := RX8) (T := TX8) (N := 38) hx hb hts hi_X8_nextOf_8 hown hK hP 0 rfl rfl 5 (by decide) (hts (.fieldLink RX8 13 "TheLiningsInItModel" "seconds" "I") (List.mem_of_getElem? (i := 3) rfl)) (fun _ h9 => h9) rfl dX8_nextOf_49 ?_
          refine lv_iconst (v := 0) hx hb dX8_nextOf_52 (by decide) ?_
          refine zc_V (As := [.int i_7, .int 2, .int nde, .int nse, .int 0]) (rest := []) ⟨hx, hb, hml, hown, hts⟩ (c_M_casesBy_2 l D cI cJ cZ cP cS po m0 mrf mki mpa mta mla msl mco mhe mso msi msh mce mca mwo mnu mte mwa mke mma mth mtr (npu) (nte) (nat_) (nde) (nto) (nse) (nhu) (nga) (nsd) (nfa) (nba) (npl) (nen) (nnu) (nwr) (nra) (nik) gki gpa gta (i_7) (nde) (nse) (0) hy0 hy1 hy2 hy3 hy4 hy5 hy6 hy7 hy8 hy9 hy10 hy11 hy12 hy13 (by omega) (by omega) hy6 hy7 hp_gki hp_gpa hp_gta) (cwV 5 hts gX8_nextOf_X8_casesBy rfl rfl rfl ⟨rfl, dh_X8_casesBy⟩ ⟨Nat.le_of_ble_eq_true rfl, Nat.le_of_ble_eq_true rfl⟩) hK hN hZ hP (hP.sub [0, 1, 2, 3] rfl) (va_recv (q := (RX8, TX8, 38)) hK hP (ci := 8) (q0 := 0) rfl rfl) rfl hl.1 rfl (Nat.le_of_ble_eq_true rfl) dX8_nextOf_53 ⟨Nat.le_of_ble_eq_true rfl, Nat.le_of_ble_eq_true rfl⟩ (fun r_10 hr_10 => ?_)
          refine lv_istore (lv' := [(5, .int r_10), (4, .int i_7), (3, .int v_2), (2, .int v_1), (0, .ref m0), (1, .int 2)]) hx hb dX8_nextOf_56 hl (by decide) rfl (fun ls hl => ?_)
          refine lv_iload_n hx hb dX8_nextOf_58 rfl (lv_at hl 3 rfl) ?_
          refine lv_iconst (v := (-1)) hx hb dX8_nextOf_59 (by decide) ?_
          refine lv_icmp_eq (tgt := 72) hx hb dX8_nextOf_60 (by decide) (fun c_11 => ?_) (fun c_11 => ?_)
          · have fc_11 : v_1.toInt = (-1) := zf_eq c_11 rfl (by decide)
            refine lv_iload hx hb dX8_nextOf_72 (lv_at hl 1 rfl) ?_
            refine lv_istore_n (lv' := [(2, .int i_7), (5, .int r_10), (4, .int i_7), (3, .int v_2), (0, .ref m0), (1, .int 2)]) hx hb dX8_nextOf_74 rfl hl (by decide) rfl (fun ls hl => ?_)
            refine lv_iload hx hb dX8_nextOf_75 (lv_at hl 1 rfl) ?_
            refine lv_istore_n (lv' := [(3, .int r_10), (2, .int i_7), (5, .int r_10), (4, .int i_7), (0, .ref m0), (1, .int 2)]) hx hb dX8_nextOf_77 rfl hl (by decide) rfl (fun ls hl => ?_)
            obtain ⟨x_12, ex_12⟩ : ∃ y : Int32, y = i_7 + 1 := ⟨_, rfl⟩
            have qx_12 : x_12.toInt = i_7.toInt + 1 := dw_inc ex_12 fc_4
            refine lv_iinc (v := x_12) (lv' := [(4, .int x_12), (3, .int r_10), (2, .int i_7), (5, .int r_10), (0, .ref m0), (1, .int 2)]) hx hb dX8_nextOf_78 hl (k := 3) rfl ex_12.symm (by decide) rfl (fun ls hl => ?_)
            refine lv_goto (tgt := 7) hx hb dX8_nextOf_81 (by decide) ?_
            exact ih x_12 i_7 r_10 _ (lv_sub hl [0, 1, 2, 4, 5] rfl) ⟨by omega, by omega⟩ (show ((i_7 : Int32).toInt = -1 → ∀ j : Nat, (j : Int) < x_12.toInt → ¬ (1 ≤ nde.toInt ∧ (gta j).toInt ≤ nse.toInt)) ∧ ((i_7 : Int32).toInt ≠ -1 → ∃ j : Nat, (j : Int) < npu.toInt ∧ 1 ≤ nde.toInt ∧ (gta j).toInt ≤ nse.toInt) from by (have hm := hsr_6_0; have h7 : i_7.toNatClampNeg = i_7.toInt.toNat := rfl; refine ⟨fun h j hj => ?_, fun h => ?_⟩; (first | (exfalso; omega) | (by_cases e9 : j = i_7.toNatClampNeg; (rw [e9]; exact fun z => by (have z2 := hm.mpr z; omega)); (exact hvi_7_0.1 (by omega) j (by omega)))); (first | exact hvi_7_0.2 (by omega) | exact ⟨i_7.toNatClampNeg, by omega, hm.mp (by omega)⟩ | (exfalso; omega)))) (dw_lo hloi_7 qx_12) (dw_hn hni_7 qx_12)
          · have fc_11 : v_1.toInt ≠ (-1) := zf_ne c_11 rfl (by decide)
            refine lv_iload hx hb dX8_nextOf_63 (lv_at hl 0 rfl) ?_
            refine lv_iload_n hx hb dX8_nextOf_65 rfl (lv_at hl 2 rfl) ?_
            refine lv_icmp_gt (tgt := 72) hx hb dX8_nextOf_66 (by decide) (fun c_13 => ?_) (fun c_13 => ?_)
            · have fc_13 : v_2.toInt < r_10.toInt := zf_lt c_13 rfl rfl
              refine lv_iload hx hb dX8_nextOf_72 (lv_at hl 1 rfl) ?_
              refine lv_istore_n (lv' := [(2, .int i_7), (5, .int r_10), (4, .int i_7), (3, .int v_2), (0, .ref m0), (1, .int 2)]) hx hb dX8_nextOf_74 rfl hl (by decide) rfl (fun ls hl => ?_)
              refine lv_iload hx hb dX8_nextOf_75 (lv_at hl 1 rfl) ?_
              refine lv_istore_n (lv' := [(3, .int r_10), (2, .int i_7), (5, .int r_10), (4, .int i_7), (0, .ref m0), (1, .int 2)]) hx hb dX8_nextOf_77 rfl hl (by decide) rfl (fun ls hl => ?_)
              obtain ⟨x_14, ex_14⟩ : ∃ y : Int32, y = i_7 + 1 := ⟨_, rfl⟩
              have qx_14 : x_14.toInt = i_7.toInt + 1 := dw_inc ex_14 fc_4
              refine lv_iinc (v := x_14) (lv' := [(4, .int x_14), (3, .int r_10), (2, .int i_7), (5, .int r_10), (0, .ref m0), (1, .int 2)]) hx hb dX8_nextOf_78 hl (k := 3) rfl ex_14.symm (by decide) rfl (fun ls hl => ?_)
              refine lv_goto (tgt := 7) hx hb dX8_nextOf_81 (by decide) ?_
              exact ih x_14 i_7 r_10 _ (lv_sub hl [0, 1, 2, 4, 5] rfl) ⟨by omega, by omega⟩ (show ((i_7 : Int32).toInt = -1 → ∀ j : Nat, (j : Int) < x_14.toInt → ¬ (1 ≤ nde.toInt ∧ (gta j).toInt ≤ nse.toInt)) ∧ ((i_7 : Int32).toInt ≠ -1 → ∃ j : Nat, (j : Int) < npu.toInt ∧ 1 ≤ nde.toInt ∧ (gta j).toInt ≤ nse.toInt) from by (have hm := hsr_6_0; have h7 : i_7.toNatClampNeg = i_7.toInt.toNat := rfl; refine ⟨fun h j hj => ?_, fun h => ?_⟩; (first | (exfalso; omega) | (by_cases e9 : j = i_7.toNatClampNeg; (rw [e9]; exact fun z => by (have z2 := hm.mpr z; omega)); (exact hvi_7_0.1 (by omega) j (by omega)))); (first | exact hvi_7_0.2 (by omega) | exact ⟨i_7.toNatClampNeg, by omega, hm.mp (by omega)⟩ | (exfalso; omega)))) (dw_lo hloi_7 qx_14) (dw_hn hni_7 qx_14)
            · have fc_13 : r_10.toInt ≤ v_2.toInt := zf_nlt c_13 rfl rfl
              refine lv_goto (tgt := 78) hx hb dX8_nextOf_69 (by decide) ?_
              obtain ⟨x_15, ex_15⟩ : ∃ y : Int32, y = i_7 + 1 := ⟨_, rfl⟩
              have qx_15 : x_15.toInt = i_7.toInt + 1 := dw_inc ex_15 fc_4
              refine lv_iinc (v := x_15) (lv' := [(4, .int x_15), (5, .int r_10), (3, .int v_2), (2, .int v_1), (0, .ref m0), (1, .int 2)]) hx hb dX8_nextOf_78 hl (k := 1) rfl ex_15.symm (by decide) rfl (fun ls hl => ?_)
              refine lv_goto (tgt := 7) hx hb dX8_nextOf_81 (by decide) ?_
              exact ih x_15 v_1 v_2 _ (lv_sub hl [0, 2, 3, 4, 5] rfl) hbv_1 (show ((v_1 : Int32).toInt = -1 → ∀ j : Nat, (j : Int) < x_15.toInt → ¬ (1 ≤ nde.toInt ∧ (gta j).toInt ≤ nse.toInt)) ∧ ((v_1 : Int32).toInt ≠ -1 → ∃ j : Nat, (j : Int) < npu.toInt ∧ 1 ≤ nde.toInt ∧ (gta j).toInt ≤ nse.toInt) from by (have hm := hsr_6_0; have h7 : i_7.toNatClampNeg = i_7.toInt.toNat := rfl; refine ⟨fun h j hj => ?_, fun h => ?_⟩; (first | (exfalso; omega) | (by_cases e9 : j = i_7.toNatClampNeg; (rw [e9]; exact fun z => by (have z2 := hm.mpr z; omega)); (exact hvi_7_0.1 (by omega) j (by omega)))); (first | exact hvi_7_0.2 (by omega) | exact ⟨i_7.toNatClampNeg, by omega, hm.mp (by omega)⟩ | (exfalso; omega)))) (dw_lo hloi_7 qx_15) (dw_hn hni_7 qx_15)
        · have fc_9 : r_6.toInt = 0 := zf_eq c_9 rfl (by decide)
          refine lv_goto (tgt := 78) hx hb dX8_nextOf_37 (by decide) ?_
          obtain ⟨x_16, ex_16⟩ : ∃ y : Int32, y = i_7 + 1 := ⟨_, rfl⟩
          have qx_16 : x_16.toInt = i_7.toInt + 1 := dw_inc ex_16 fc_4
          refine lv_iinc (v := x_16) (lv' := [(4, .int x_16), (3, .int v_2), (2, .int v_1), (0, .ref m0), (1, .int 2)]) hx hb dX8_nextOf_78 hl (k := 0) rfl ex_16.symm (by decide) rfl (fun ls hl => ?_)
          refine lv_goto (tgt := 7) hx hb dX8_nextOf_81 (by decide) ?_
          exact ih x_16 v_1 v_2 _ (lv_sub hl [0, 1, 2, 3, 4] rfl) hbv_1 (show ((v_1 : Int32).toInt = -1 → ∀ j : Nat, (j : Int) < x_16.toInt → ¬ (1 ≤ nde.toInt ∧ (gta j).toInt ≤ nse.toInt)) ∧ ((v_1 : Int32).toInt ≠ -1 → ∃ j : Nat, (j : Int) < npu.toInt ∧ 1 ≤ nde.toInt ∧ (gta j).toInt ≤ nse.toInt) from by (have hm := hsr_6_0; have h7 : i_7.toNatClampNeg = i_7.toInt.toNat := rfl; refine ⟨fun h j hj => ?_, fun h => ?_⟩; (first | (exfalso; omega) | (by_cases e9 : j = i_7.toNatClampNeg; (rw [e9]; exact fun z => by (have z2 := hm.mpr z; omega)); (exact hvi_7_0.1 (by omega) j (by omega)))); (first | exact hvi_7_0.2 (by omega) | exact ⟨i_7.toNatClampNeg, by omega, hm.mp (by omega)⟩ | (exfalso; omega)))) (dw_lo hloi_7 qx_16) (dw_hn hni_7 qx_16)
theorem hi_X8_dayIn_8 : ∀ w ∈ u_ws RX8 TX8 38, w ∈ wsX8_dayIn := fun w h => (gl_X8_dayIn_X80 w h).1
set_option maxHeartbeats 4000000 in
set_option maxRecDepth 100000 in
theorem c_M_dayIn (l : Launch) (D : va_G) (cI cJ cZ cP cS : ClassId) (po : zPool) (m0 mrf mki mpa mta mla msl mco mhe mso msi msh mce mca mwo mnu mte mwa mke mma mth mtr : Nat) (npu nte nat_ nde nto nse nhu nga nsd nfa nba npl nen nnu nwr nra nik : Int32) (gki gpa gta gla gsl : Nat → Int32) (hy0 : 0 ≤ npu.toInt) (hy1 : npu.toInt ≤ 8) (hy2 : 4 ≤ nte.toInt) (hy3 : nte.toInt ≤ 40) (hy4 : 0 ≤ nat_.toInt) (hy5 : nat_.toInt ≤ 40) (hy6 : 0 ≤ nde.toInt) (hy7 : nde.toInt ≤ 24) (hy8 : 0 ≤ nhu.toInt) (hy9 : nhu.toInt ≤ 9) (hy10 : 0 ≤ nra.toInt) (hy11 : nra.toInt ≤ 2000) (hy12 : 0 ≤ nik.toInt) (hy13 : nik.toInt ≤ 1) (hp_gki : zRg gki (0) 6) (hp_gpa : zRg gpa (0) 9) (hp_gta : zRg gta (0) 60) (hp_gla : zRg gla (0) 1) (hp_gsl : zRg gsl (0) 9) (hpz : Nat) : Met l yX8_dayIn wsX8_dayIn ({ frames := 6, cells := 0, slots := 0, locals := 154 }) (va_Pc [.ref m0] (zW D (zKT cI cJ cZ cP cS) po [(zMO m0 npu nte nat_ nde nto nse nhu nga nsd nfa mrf mki mpa mta mla msl mco mhe mso msi msh mce mca mwo mnu mte nba npl nen nnu nwr mwa mke mma mth mtr nra nik), (mki, .inl (cI, 8, .inl gki)), (mpa, .inl (cI, 8, .inl gpa)), (mta, .inl (cI, 8, .inl gta)), (mla, .inl (cI, 40, .inl gla)), (msl, .inl (cI, 40, .inl gsl))] hpz)) (va_Qi (fun (r : Int32) (u : (Int32) × (Int32) × (Int32) × (Int32) × (Int32)) => (0 ≤ u.1.toInt ∧ u.1.toInt ≤ 40) ∧ (0 ≤ u.2.1.toInt ∧ u.2.1.toInt ≤ 24) ∧ (0 ≤ r.toInt ∧ r.toInt ≤ 1)) (zB D [(zMO m0 npu nte nat_ nde nto nse nhu nga nsd nfa mrf mki mpa mta mla msl mco mhe mso msi msh mce mca mwo mnu mte nba npl nen nnu nwr mwa mke mma mth mtr nra nik), (mki, .inl (cI, 8, .inl gki)), (mpa, .inl (cI, 8, .inl gpa)), (mta, .inl (cI, 8, .inl gta)), (mla, .inl (cI, 40, .inl gla)), (msl, .inl (cI, 40, .inl gsl))] hpz (fun (u : (Int32) × (Int32) × (Int32) × (Int32) × (Int32)) => [(zMO m0 npu nte u.1 u.2.1 u.2.2.1 u.2.2.2.1 nhu nga u.2.2.2.2 nfa mrf mki mpa mta mla msl mco mhe mso msi msh mce mca mwo mnu mte nba npl nen nnu nwr mwa mke mma mth mtr nra nik), (mki, .inl (cI, 8, .inl gki)), (mpa, .inl (cI, 8, .inl gpa)), (mta, .inl (cI, 8, .inl gta)), (mla, .inl (cI, 40, .inl gla)), (msl, .inl (cI, 40, .inl gsl))])) (va_A [(zMO m0 npu nte nat_ nde nto nse nhu nga nsd nfa mrf mki mpa mta mla msl mco mhe mso msi msh mce mca mwo mnu mte nba npl nen nnu nwr mwa mke mma mth mtr nra nik), (mki, .inl (cI, 8, .inl gki)), (mpa, .inl (cI, 8, .inl gpa)), (mta, .inl (cI, 8, .inl gta)), (mla, .inl (cI, 40, .inl gla)), (msl, .inl (cI, 40, .inl gsl))] hpz)) 0 0 (va_A [(zMO m0 npu nte nat_ nde nto nse nhu nga nsd nfa mrf mki mpa mta mla msl mco mhe mso msi msh mce mca mwo mnu mte nba npl nen nnu nwr mwa mke mma mth mtr nra nik), (mki, .inl (cI, 8, .inl gki)), (mpa, .inl (cI, 8, .inl gpa)), (mta, .inl (cI, 8, .inl gta)), (mla, .inl (cI, 40, .inl gla)), (msl, .inl (cI, 40, .inl gsl))] hpz) := by
  refine Met.ofW (cc := cX8_dayIn) (maxL := 3) (ret := (some .boolean)) (by decide) rfl ?_
  intro p e s m args below meth c s₁ B hml hv
  obtain ⟨rfl, hsz, hP, hK, hD0, hN, hZ⟩ := hv
  have hx := B.exec
  have hb := B.bytes
  have hr := B.returns
  have hts := atoms_spec (ws := wsX8_dayIn) B.pre
  have hown : s.vm.findClass RX8 = some m.cls := findClass_of_methodNamed B.named
  have hlocks := B.notSynchronized
  subst hsz
  have hD := hD0.self (sz := s.heap.size)
  have hA := zA_of hD
  have hl := lv_entry ([.ref m0]) (n := 3) (Nat.le_of_ble_eq_true rfl)
  rw [lg_entry_eq]
  generalize (lg_sl ([.ref m0]) ++ List.replicate (3 - (lg_sl ([.ref m0])).length) Slot.unset).toArray = ls at hl ⊢
  replace hl : lv_has ls 3 [(0, .ref m0)] := hl
  refine zw_begin hP hD (fun H locs hP1 hS => ?_)
  clear hP
  have hP := hP1
  clear hP1
  refine lv_aload_n hx hb dX8_dayIn_0 rfl (lv_at hl 0 rfl) ?_
  refine lv_iconst (v := 0) hx hb dX8_dayIn_1 (by decide) ?_
  refine va_put (D := D) (ci := 8) (v := .int 0) (ty := .int) (C := RX8) (T := TX8) (N := 38) hx hb hts hi_X8_dayIn_8 tyX8 tyX8_ok nmX8 hown hK hP hD hS 0 rfl rfl 2 (by decide) (hts (.fieldLink RX8 122 "TheLiningsInItModel" "at" "I") (List.mem_of_getElem? (i := 1) rfl)) (fun _ h9 => h9) rfl (tyX8_ok 2 (Nat.le_of_ble_eq_true rfl)) rfl rfl (Nat.le_of_ble_eq_true rfl) dX8_dayIn_2 (fun H locs hP hD hS => ?_)
  have h9R := zRe (ws' := [(zMO m0 npu nte 0 nde nto nse nhu nga nsd nfa mrf mki mpa mta mla msl mco mhe mso msi msh mce mca mwo mnu mte nba npl nen nnu nwr mwa mke mma mth mtr nra nik), (mki, .inl (cI, 8, .inl gki)), (mpa, .inl (cI, 8, .inl gpa)), (mta, .inl (cI, 8, .inl gta)), (mla, .inl (cI, 40, .inl gla)), (msl, .inl (cI, 40, .inl gsl))]) hP hD rfl
  clear hP hD
  obtain ⟨hP, hD⟩ := h9R
  refine lv_aload_n hx hb dX8_dayIn_5 rfl (lv_at hl 0 rfl) ?_
  refine lv_iconst (v := 0) hx hb dX8_dayIn_6 (by decide) ?_
  refine va_put (D := D) (ci := 8) (v := .int 0) (ty := .int) (C := RX8) (T := TX8) (N := 38) hx hb hts hi_X8_dayIn_8 tyX8 tyX8_ok nmX8 hown hK hP hD hS 0 rfl rfl 3 (by decide) (hts (.fieldLink RX8 115 "TheLiningsInItModel" "depth" "I") (List.mem_of_getElem? (i := 2) rfl)) (fun _ h9 => h9) rfl (tyX8_ok 3 (Nat.le_of_ble_eq_true rfl)) rfl rfl (Nat.le_of_ble_eq_true rfl) dX8_dayIn_7 (fun H locs hP hD hS => ?_)
  have h9R := zRe (ws' := [(zMO m0 npu nte 0 0 nto nse nhu nga nsd nfa mrf mki mpa mta mla msl mco mhe mso msi msh mce mca mwo mnu mte nba npl nen nnu nwr mwa mke mma mth mtr nra nik), (mki, .inl (cI, 8, .inl gki)), (mpa, .inl (cI, 8, .inl gpa)), (mta, .inl (cI, 8, .inl gta)), (mla, .inl (cI, 40, .inl gla)), (msl, .inl (cI, 40, .inl gsl))]) hP hD rfl
  clear hP hD
  obtain ⟨hP, hD⟩ := h9R
  refine lv_aload_n hx hb dX8_dayIn_10 rfl (lv_at hl 0 rfl) ?_
  refine lv_bipush (v := 60) hx hb dX8_dayIn_11 (by decide) ?_
  refine va_put (D := D) (ci := 8) (v := .int 60) (ty := .int) (C := RX8) (T := TX8) (N := 38) hx hb hts hi_X8_dayIn_8 tyX8 tyX8_ok nmX8 hown hK hP hD hS 0 rfl rfl 5 (by decide) (hts (.fieldLink RX8 13 "TheLiningsInItModel" "seconds" "I") (List.mem_of_getElem? (i := 3) rfl)) (fun _ h9 => h9) rfl (tyX8_ok 5 (Nat.le_of_ble_eq_true rfl)) rfl rfl (Nat.le_of_ble_eq_true rfl) dX8_dayIn_13 (fun H locs hP hD hS => ?_)
  have h9R := zRe (ws' := [(zMO m0 npu nte 0 0 nto 60 nhu nga nsd nfa mrf mki mpa mta mla msl mco mhe mso msi msh mce mca mwo mnu mte nba npl nen nnu nwr mwa mke mma mth mtr nra nik), (mki, .inl (cI, 8, .inl gki)), (mpa, .inl (cI, 8, .inl gpa)), (mta, .inl (cI, 8, .inl gta)), (mla, .inl (cI, 40, .inl gla)), (msl, .inl (cI, 40, .inl gsl))]) hP hD rfl
  clear hP hD
  obtain ⟨hP, hD⟩ := h9R
  refine lv_iconst (v := 0) hx hb dX8_dayIn_16 (by decide) ?_
  refine lv_istore_n (lv' := [(1, .int 0), (0, .ref m0)]) hx hb dX8_dayIn_17 rfl hl (by decide) rfl (fun ls hl => ?_)
  obtain ⟨i_18, hi_18⟩ : ∃ i : Int32, i = 0 := ⟨_, rfl⟩
  replace hl : lv_has ls 3 [(1, .int i_18), (0, .ref m0)] := by rw [hi_18]; exact lv_sub hl [0, 1] rfl
  have h1i_18 : i_18.toInt = 0 := by rw [hi_18]; decide
  obtain ⟨nfu, hni_18⟩ : ∃ nq9 : Nat, 3 ≤ i_18.toInt + (nq9 : Int) := ⟨((3 : Int) - 0).toNat, by omega⟩
  have hloi_18 : 0 ≤ i_18.toInt := by omega
  obtain ⟨v_1, hv_1⟩ : ∃ g : Int32, g = 0 := ⟨_, rfl⟩
  have hbv_1 : 0 ≤ v_1.toInt ∧ v_1.toInt ≤ 40 := by rw [hv_1]; exact ⟨by decide, by decide⟩
  obtain ⟨v_2, hv_2⟩ : ∃ g : Int32, g = 0 := ⟨_, rfl⟩
  have hbv_2 : 0 ≤ v_2.toInt ∧ v_2.toInt ≤ 24 := by rw [hv_2]; exact ⟨by decide, by decide⟩
  obtain ⟨v_3, hv_3⟩ : ∃ g : Int32, g = nto := ⟨_, rfl⟩
  obtain ⟨v_4, hv_4⟩ : ∃ g : Int32, g = 60 := ⟨_, rfl⟩
  obtain ⟨v_5, hv_5⟩ : ∃ g : Int32, g = nsd := ⟨_, rfl⟩
  replace hP : va_P D vwCl [(zMO m0 npu nte v_1 v_2 v_3 v_4 nhu nga v_5 nfa mrf mki mpa mta mla msl mco mhe mso msi msh mce mca mwo mnu mte nba npl nen nnu nwr mwa mke mma mth mtr nra nik), (mki, .inl (cI, 8, .inl gki)), (mpa, .inl (cI, 8, .inl gpa)), (mta, .inl (cI, 8, .inl gta)), (mla, .inl (cI, 40, .inl gla)), (msl, .inl (cI, 40, .inl gsl))] H := by rw [hv_1, hv_2, hv_3, hv_4, hv_5]; exact hP
  replace hD : va_D (va_A [(zMO m0 npu nte nat_ nde nto nse nhu nga nsd nfa mrf mki mpa mta mla msl mco mhe mso msi msh mce mca mwo mnu mte nba npl nen nnu nwr mwa mke mma mth mtr nra nik), (mki, .inl (cI, 8, .inl gki)), (mpa, .inl (cI, 8, .inl gpa)), (mta, .inl (cI, 8, .inl gta)), (mla, .inl (cI, 40, .inl gla)), (msl, .inl (cI, 40, .inl gsl))] s.heap.size) [(zMO m0 npu nte v_1 v_2 v_3 v_4 nhu nga v_5 nfa mrf mki mpa mta mla msl mco mhe mso msi msh mce mca mwo mnu mte nba npl nen nnu nwr mwa mke mma mth mtr nra nik), (mki, .inl (cI, 8, .inl gki)), (mpa, .inl (cI, 8, .inl gpa)), (mta, .inl (cI, 8, .inl gta)), (mla, .inl (cI, 40, .inl gla)), (msl, .inl (cI, 40, .inl gsl))] := by rw [hv_1, hv_2, hv_3, hv_4, hv_5]; exact hD
  clear h1i_18 hi_18 hv_1 hv_2 hv_3 hv_4 hv_5
  skip
  revert hni_18
  revert hloi_18
  revert hbv_2
  revert hbv_1
  revert hl
  revert hS
  revert hD
  revert hP
  revert ls
  revert locs
  revert H
  revert v_1
  revert v_2
  revert v_3
  revert v_4
  revert v_5
  revert i_18
  induction nfu with
  | zero =>
    intro i_18 v_5 v_4 v_3 v_2 v_1 H locs ls hP hD hS hl hbv_1 hbv_2 hloi_18 hni_18
    have hzi_18 : 3 ≤ i_18.toInt := by omega
    refine lv_iload_n hx hb dX8_dayIn_18 rfl (lv_at hl 0 rfl) ?_
    refine lv_iconst (v := 3) hx hb dX8_dayIn_19 (by decide) ?_
    refine lv_icmp_ge (tgt := 92) hx hb dX8_dayIn_20 (by decide) (fun c_6 => ?_) (fun c_6 => ?_)
    · have fc_6 : 3 ≤ i_18.toInt := zf_le c_6 (by decide) rfl
      refine lv_iconst (v := 0) hx hb dX8_dayIn_92 (by decide) ?_
      exact W.zret (v := 0) hx hb hr (by decide) (fun t ht hW => ⟨⟨0, (v_1, v_2, v_3, v_4, v_5), rfl, ⟨(show 0 ≤ v_1.toInt ∧ v_1.toInt ≤ 40 from hbv_1), (show 0 ≤ v_2.toInt ∧ v_2.toInt ≤ 24 from hbv_2), ⟨by decide, by decide⟩⟩, zRet ht hP hD [0, 1, 2, 3, 4, 5] (by decide) rfl⟩, hS.F ht⟩) hS.2.2 dX8_dayIn_93
    · exfalso; have fc_6 : i_18.toInt < 3 := zf_nle c_6 (by decide) rfl; omega
  | succ nfu ih =>
    intro i_18 v_5 v_4 v_3 v_2 v_1 H locs ls hP hD hS hl hbv_1 hbv_2 hloi_18 hni_18
    refine lv_iload_n hx hb dX8_dayIn_18 rfl (lv_at hl 0 rfl) ?_
    refine lv_iconst (v := 3) hx hb dX8_dayIn_19 (by decide) ?_
    refine lv_icmp_ge (tgt := 92) hx hb dX8_dayIn_20 (by decide) (fun c_7 => ?_) (fun c_7 => ?_)
    · have fc_7 : 3 ≤ i_18.toInt := zf_le c_7 (by decide) rfl
      refine lv_iconst (v := 0) hx hb dX8_dayIn_92 (by decide) ?_
      exact W.zret (v := 0) hx hb hr (by decide) (fun t ht hW => ⟨⟨0, (v_1, v_2, v_3, v_4, v_5), rfl, ⟨(show 0 ≤ v_1.toInt ∧ v_1.toInt ≤ 40 from hbv_1), (show 0 ≤ v_2.toInt ∧ v_2.toInt ≤ 24 from hbv_2), ⟨by decide, by decide⟩⟩, zRet ht hP hD [0, 1, 2, 3, 4, 5] (by decide) rfl⟩, hS.F ht⟩) hS.2.2 dX8_dayIn_93
    · have fc_7 : i_18.toInt < 3 := zf_nle c_7 (by decide) rfl
      refine lv_aload_n hx hb dX8_dayIn_23 rfl (lv_at hl 1 rfl) ?_
      refine va_get (D := D) (ci := 8) (v := .int v_2) (C := RX8) (T := TX8) (N := 38) hx hb hts hi_X8_dayIn_8 hown hK hP 0 rfl rfl 3 (by decide) (hts (.fieldLink RX8 115 "TheLiningsInItModel" "depth" "I") (List.mem_of_getElem? (i := 2) rfl)) (fun _ h9 => h9) rfl dX8_dayIn_24 ?_
      refine lv_if_ne (tgt := 92) hx hb dX8_dayIn_27 (by decide) (fun c_8 => ?_) (fun c_8 => ?_)
      · have fc_8 : v_2.toInt ≠ 0 := zf_ne c_8 rfl (by decide)
        refine lv_iconst (v := 0) hx hb dX8_dayIn_92 (by decide) ?_
        exact W.zret (v := 0) hx hb hr (by decide) (fun t ht hW => ⟨⟨0, (v_1, v_2, v_3, v_4, v_5), rfl, ⟨(show 0 ≤ v_1.toInt ∧ v_1.toInt ≤ 40 from hbv_1), (show 0 ≤ v_2.toInt ∧ v_2.toInt ≤ 24 from hbv_2), ⟨by decide, by decide⟩⟩, zRet ht hP hD [0, 1, 2, 3, 4, 5] (by decide) rfl⟩, hS.F ht⟩) hS.2.2 dX8_dayIn_93
      · have fc_8 : v_2.toInt = 0 := zf_eq c_8 rfl (by decide)
        refine lv_aload_n hx hb dX8_dayIn_30 rfl (lv_at hl 1 rfl) ?_
        skip
        refine zw_Vv (As := []) (rest := []) (wr := [(mki, .inl (cI, 8, .inl gki)), (mpa, .inl (cI, 8, .inl gpa)), (mta, .inl (cI, 8, .inl gta))]) ⟨hx, hb, hml, hown, hts⟩ (c_M_closes l D cI cJ cZ cP cS po m0 mrf mki mpa mta mla msl mco mhe mso msi msh mce mca mwo mnu mte mwa mke mma mth mtr (npu) (nte) (v_1) (v_2) (v_3) (v_4) (nhu) (nga) (v_5) (nfa) (nba) (npl) (nen) (nnu) (nwr) (nra) (nik) gla gsl hy0 hy1 hy2 hy3 hbv_1.1 hbv_1.2 hbv_2.1 hbv_2.2 hy8 hy9 hy10 hy11 hy12 hy13 hp_gla hp_gsl H.size) (cwV 0 hts gX8_dayIn_X8_closes rfl rfl rfl ⟨rfl, dh_X8_closes⟩ ⟨Nat.le_of_ble_eq_true rfl, Nat.le_of_ble_eq_true rfl⟩) hK hN (hZ.kept hS) hP hD hS hA [0, 4, 5] [1, 2, 3] rfl rfl (by decide) (by decide) (by decide) (va_recv (q := (RX8, TX8, 38)) hK hP (ci := 8) (q0 := 0) rfl rfl) rfl hl.1 rfl (Nat.le_of_ble_eq_true rfl) dX8_dayIn_31 ⟨Nat.le_of_ble_eq_true rfl, Nat.le_of_ble_eq_true rfl⟩ (fun u_10 H locs hr_9 hP hD hS => ?_)
        obtain ⟨q_11, q_12, q_13⟩ := u_10
        try dsimp only at hr_9
        obtain ⟨hbq_11, hbq_12, hr_9⟩ := hr_9
        have h9R := zRe (ws' := [(mki, .inl (cI, 8, .inl gki)), (mpa, .inl (cI, 8, .inl gpa)), (mta, .inl (cI, 8, .inl gta)), (zMO m0 npu nte q_11 q_12 v_3 v_4 nhu nga q_13 nfa mrf mki mpa mta mla msl mco mhe mso msi msh mce mca mwo mnu mte nba npl nen nnu nwr mwa mke mma mth mtr nra nik), (mla, .inl (cI, 40, .inl gla)), (msl, .inl (cI, 40, .inl gsl))]) hP hD rfl
        clear hP hD
        obtain ⟨hP, hD⟩ := h9R
        refine lv_aload_n hx hb dX8_dayIn_34 rfl (lv_at hl 1 rfl) ?_
        refine va_get (D := D) (ci := 8) (v := .int q_11) (C := RX8) (T := TX8) (N := 38) hx hb hts hi_X8_dayIn_8 hown hK hP 3 rfl rfl 2 (by decide) (hts (.fieldLink RX8 122 "TheLiningsInItModel" "at" "I") (List.mem_of_getElem? (i := 1) rfl)) (fun _ h9 => h9) rfl dX8_dayIn_35 ?_
        refine lv_aload_n hx hb dX8_dayIn_38 rfl (lv_at hl 1 rfl) ?_
        refine va_get (D := D) (ci := 8) (v := .int nte) (C := RX8) (T := TX8) (N := 38) hx hb hts hi_X8_dayIn_8 hown hK hP 3 rfl rfl 1 (by decide) (hts (.fieldLink RX8 7 "TheLiningsInItModel" "teeth" "I") (List.mem_of_getElem? (i := 4) rfl)) (fun _ h9 => h9) rfl dX8_dayIn_39 ?_
        refine lv_icmp_ne (tgt := 47) hx hb dX8_dayIn_42 (by decide) (fun c_14 => ?_) (fun c_14 => ?_)
        · have fc_14 : q_11.toInt ≠ nte.toInt := zf_ne c_14 rfl rfl
          refine lv_iconst (v := 0) hx hb dX8_dayIn_47 (by decide) ?_
          refine lv_istore_n (lv' := [(2, .int 0), (1, .int i_18), (0, .ref m0)]) hx hb dX8_dayIn_48 rfl hl (by decide) rfl (fun ls hl => ?_)
          obtain ⟨i_49, hi_49⟩ : ∃ i : Int32, i = 0 := ⟨_, rfl⟩
          replace hl : lv_has ls 3 [(2, .int i_49), (1, .int i_18), (0, .ref m0)] := by rw [hi_49]; exact lv_sub hl [0, 1, 2] rfl
          have h1i_49 : i_49.toInt = 0 := by rw [hi_49]; decide
          obtain ⟨nfu_49, hni_49⟩ : ∃ nq9 : Nat, 12 ≤ i_49.toInt + (nq9 : Int) := ⟨((12 : Int) - 0).toNat, by omega⟩
          have hloi_49 : 0 ≤ i_49.toInt := by omega
          obtain ⟨v_15, hv_15⟩ : ∃ g : Int32, g = q_12 := ⟨_, rfl⟩
          have hbv_15 : 0 ≤ v_15.toInt ∧ v_15.toInt ≤ 24 := by rw [hv_15]; exact ⟨by omega, by omega⟩
          obtain ⟨v_16, hv_16⟩ : ∃ g : Int32, g = v_3 := ⟨_, rfl⟩
          obtain ⟨v_17, hv_17⟩ : ∃ g : Int32, g = v_4 := ⟨_, rfl⟩
          obtain ⟨v_18, hv_18⟩ : ∃ g : Int32, g = q_13 := ⟨_, rfl⟩
          replace hP : va_P D vwCl [(mki, .inl (cI, 8, .inl gki)), (mpa, .inl (cI, 8, .inl gpa)), (mta, .inl (cI, 8, .inl gta)), (zMO m0 npu nte q_11 v_15 v_16 v_17 nhu nga v_18 nfa mrf mki mpa mta mla msl mco mhe mso msi msh mce mca mwo mnu mte nba npl nen nnu nwr mwa mke mma mth mtr nra nik), (mla, .inl (cI, 40, .inl gla)), (msl, .inl (cI, 40, .inl gsl))] H := by rw [hv_15, hv_16, hv_17, hv_18]; exact hP
          replace hD : va_D (va_A [(zMO m0 npu nte nat_ nde nto nse nhu nga nsd nfa mrf mki mpa mta mla msl mco mhe mso msi msh mce mca mwo mnu mte nba npl nen nnu nwr mwa mke mma mth mtr nra nik), (mki, .inl (cI, 8, .inl gki)), (mpa, .inl (cI, 8, .inl gpa)), (mta, .inl (cI, 8, .inl gta)), (mla, .inl (cI, 40, .inl gla)), (msl, .inl (cI, 40, .inl gsl))] s.heap.size) [(mki, .inl (cI, 8, .inl gki)), (mpa, .inl (cI, 8, .inl gpa)), (mta, .inl (cI, 8, .inl gta)), (zMO m0 npu nte q_11 v_15 v_16 v_17 nhu nga v_18 nfa mrf mki mpa mta mla msl mco mhe mso msi msh mce mca mwo mnu mte nba npl nen nnu nwr mwa mke mma mth mtr nra nik), (mla, .inl (cI, 40, .inl gla)), (msl, .inl (cI, 40, .inl gsl))] := by rw [hv_15, hv_16, hv_17, hv_18]; exact hD
          clear h1i_49 hi_49 hv_15 hv_16 hv_17 hv_18
          skip
          revert hni_49
          revert hloi_49
          revert hbv_15
          revert hl
          revert hS
          revert hD
          revert hP
          revert ls
          revert locs
          revert H
          revert v_15
          revert v_16
          revert v_17
          revert v_18
          revert i_49
          induction nfu_49 with
          | zero =>
            intro i_49 v_18 v_17 v_16 v_15 H locs ls hP hD hS hl hbv_15 hloi_49 hni_49
            have hzi_49 : 12 ≤ i_49.toInt := by omega
            refine lv_iload_n hx hb dX8_dayIn_49 rfl (lv_at hl 0 rfl) ?_
            refine lv_bipush (v := 12) hx hb dX8_dayIn_50 (by decide) ?_
            refine lv_icmp_ge (tgt := 86) hx hb dX8_dayIn_52 (by decide) (fun c_19 => ?_) (fun c_19 => ?_)
            · have fc_19 : 12 ≤ i_49.toInt := zf_le c_19 (by decide) rfl
              obtain ⟨x_20, ex_20⟩ : ∃ y : Int32, y = i_18 + 1 := ⟨_, rfl⟩
              have qx_20 : x_20.toInt = i_18.toInt + 1 := dw_incK ex_20 fc_7 (by decide)
              refine lv_iinc (v := x_20) (lv' := [(1, .int x_20), (2, .int i_49), (0, .ref m0)]) hx hb dX8_dayIn_86 hl (k := 1) rfl ex_20.symm (by decide) rfl (fun ls hl => ?_)
              refine lv_goto (tgt := 18) hx hb dX8_dayIn_89 (by decide) ?_
              exact ih x_20 (v_18) (v_17) (v_16) (v_15) (q_11) _ _ _ (hP.sub [3, 0, 1, 2, 4, 5] rfl) (hD.sub [3, 0, 1, 2, 4, 5] (by decide) rfl) hS (lv_sub hl [0, 2] rfl) hbq_11 hbv_15 (dw_lo hloi_18 qx_20) (dw_hn hni_18 qx_20)
            · exfalso; have fc_19 : i_49.toInt < 12 := zf_nle c_19 (by decide) rfl; omega
          | succ nfu_49 ih_49 =>
            intro i_49 v_18 v_17 v_16 v_15 H locs ls hP hD hS hl hbv_15 hloi_49 hni_49
            refine lv_iload_n hx hb dX8_dayIn_49 rfl (lv_at hl 0 rfl) ?_
            refine lv_bipush (v := 12) hx hb dX8_dayIn_50 (by decide) ?_
            refine lv_icmp_ge (tgt := 86) hx hb dX8_dayIn_52 (by decide) (fun c_21 => ?_) (fun c_21 => ?_)
            · have fc_21 : 12 ≤ i_49.toInt := zf_le c_21 (by decide) rfl
              obtain ⟨x_22, ex_22⟩ : ∃ y : Int32, y = i_18 + 1 := ⟨_, rfl⟩
              have qx_22 : x_22.toInt = i_18.toInt + 1 := dw_incK ex_22 fc_7 (by decide)
              refine lv_iinc (v := x_22) (lv' := [(1, .int x_22), (2, .int i_49), (0, .ref m0)]) hx hb dX8_dayIn_86 hl (k := 1) rfl ex_22.symm (by decide) rfl (fun ls hl => ?_)
              refine lv_goto (tgt := 18) hx hb dX8_dayIn_89 (by decide) ?_
              exact ih x_22 (v_18) (v_17) (v_16) (v_15) (q_11) _ _ _ (hP.sub [3, 0, 1, 2, 4, 5] rfl) (hD.sub [3, 0, 1, 2, 4, 5] (by decide) rfl) hS (lv_sub hl [0, 2] rfl) hbq_11 hbv_15 (dw_lo hloi_18 qx_22) (dw_hn hni_18 qx_22)
            · have fc_21 : i_49.toInt < 12 := zf_nle c_21 (by decide) rfl
              refine lv_aload_n hx hb dX8_dayIn_55 rfl (lv_at hl 2 rfl) ?_
              refine va_get (D := D) (ci := 8) (v := .int v_15) (C := RX8) (T := TX8) (N := 38) hx hb hts hi_X8_dayIn_8 hown hK hP 3 rfl rfl 3 (by decide) (hts (.fieldLink RX8 115 "TheLiningsInItModel" "depth" "I") (List.mem_of_getElem? (i := 2) rfl)) (fun _ h9 => h9) rfl dX8_dayIn_56 ?_
              refine lv_if_le (tgt := 86) hx hb dX8_dayIn_59 (by decide) (fun c_23 => ?_) (fun c_23 => ?_)
              · have fc_23 : v_15.toInt ≤ 0 := zf_le c_23 rfl (by decide)
                obtain ⟨x_24, ex_24⟩ : ∃ y : Int32, y = i_18 + 1 := ⟨_, rfl⟩
                have qx_24 : x_24.toInt = i_18.toInt + 1 := dw_incK ex_24 fc_7 (by decide)
                refine lv_iinc (v := x_24) (lv' := [(1, .int x_24), (2, .int i_49), (0, .ref m0)]) hx hb dX8_dayIn_86 hl (k := 1) rfl ex_24.symm (by decide) rfl (fun ls hl => ?_)
                refine lv_goto (tgt := 18) hx hb dX8_dayIn_89 (by decide) ?_
                exact ih x_24 (v_18) (v_17) (v_16) (v_15) (q_11) _ _ _ (hP.sub [3, 0, 1, 2, 4, 5] rfl) (hD.sub [3, 0, 1, 2, 4, 5] (by decide) rfl) hS (lv_sub hl [0, 2] rfl) hbq_11 hbv_15 (dw_lo hloi_18 qx_24) (dw_hn hni_18 qx_24)
              · have fc_23 : 0 < v_15.toInt := zf_nle c_23 rfl (by decide)
                refine lv_aload_n hx hb dX8_dayIn_62 rfl (lv_at hl 2 rfl) ?_
                refine lv_iconst (v := 2) hx hb dX8_dayIn_63 (by decide) ?_
                refine zc_V (As := [.int 2]) (rest := []) ⟨hx, hb, hml, hown, hts⟩ (c_M_nextOf_2x l D cI cJ cZ cP cS po m0 mrf mki mpa mta mla msl mco mhe mso msi msh mce mca mwo mnu mte mwa mke mma mth mtr (npu) (nte) (q_11) (v_15) (v_16) (v_17) (nhu) (nga) (v_18) (nfa) (nba) (npl) (nen) (nnu) (nwr) (nra) (nik) gki gpa gta hy0 hy1 hy2 hy3 hbq_11.1 hbq_11.2 hbv_15.1 hbv_15.2 hy8 hy9 hy10 hy11 hy12 hy13 hp_gki hp_gpa hp_gta) (cwV 1 hts gX8_dayIn_X8_nextOf rfl rfl rfl ⟨rfl, dh_X8_nextOf⟩ ⟨Nat.le_of_ble_eq_true rfl, Nat.le_of_ble_eq_true rfl⟩) hK hN (hZ.kept hS) hP (hP.sub [3, 0, 1, 2] rfl) (va_recv (q := (RX8, TX8, 38)) hK hP (ci := 8) (q0 := 3) rfl rfl) rfl hl.1 rfl (Nat.le_of_ble_eq_true rfl) dX8_dayIn_64 ⟨Nat.le_of_ble_eq_true rfl, Nat.le_of_ble_eq_true rfl⟩ (fun r_25 hr_25 => ?_)
                obtain ⟨g_26, g_27, hsr_25_0⟩ := hr_25
                refine lv_iconst (v := (-1)) hx hb dX8_dayIn_67 (by decide) ?_
                refine lv_icmp_eq (tgt := 86) hx hb dX8_dayIn_68 (by decide) (fun c_28 => ?_) (fun c_28 => ?_)
                · have fc_28 : r_25.toInt = (-1) := zf_eq c_28 rfl (by decide)
                  obtain ⟨x_29, ex_29⟩ : ∃ y : Int32, y = i_18 + 1 := ⟨_, rfl⟩
                  have qx_29 : x_29.toInt = i_18.toInt + 1 := dw_incK ex_29 fc_7 (by decide)
                  refine lv_iinc (v := x_29) (lv' := [(1, .int x_29), (2, .int i_49), (0, .ref m0)]) hx hb dX8_dayIn_86 hl (k := 1) rfl ex_29.symm (by decide) rfl (fun ls hl => ?_)
                  refine lv_goto (tgt := 18) hx hb dX8_dayIn_89 (by decide) ?_
                  exact ih x_29 (v_18) (v_17) (v_16) (v_15) (q_11) _ _ _ (hP.sub [3, 0, 1, 2, 4, 5] rfl) (hD.sub [3, 0, 1, 2, 4, 5] (by decide) rfl) hS (lv_sub hl [0, 2] rfl) hbq_11 hbv_15 (dw_lo hloi_18 qx_29) (dw_hn hni_18 qx_29)
                · have fc_28 : r_25.toInt ≠ (-1) := zf_ne c_28 rfl (by decide)
                  refine lv_aload_n hx hb dX8_dayIn_71 rfl (lv_at hl 2 rfl) ?_
                  refine lv_aload_n hx hb dX8_dayIn_72 rfl (lv_at hl 2 rfl) ?_
                  refine lv_iconst (v := 2) hx hb dX8_dayIn_73 (by decide) ?_
                  refine zc_V (As := [.int 2]) (rest := [.ref m0]) ⟨hx, hb, hml, hown, hts⟩ (c_M_nextOf_2x l D cI cJ cZ cP cS po m0 mrf mki mpa mta mla msl mco mhe mso msi msh mce mca mwo mnu mte mwa mke mma mth mtr (npu) (nte) (q_11) (v_15) (v_16) (v_17) (nhu) (nga) (v_18) (nfa) (nba) (npl) (nen) (nnu) (nwr) (nra) (nik) gki gpa gta hy0 hy1 hy2 hy3 hbq_11.1 hbq_11.2 hbv_15.1 hbv_15.2 hy8 hy9 hy10 hy11 hy12 hy13 hp_gki hp_gpa hp_gta) (cwV 1 hts gX8_dayIn_X8_nextOf rfl rfl rfl ⟨rfl, dh_X8_nextOf⟩ ⟨Nat.le_of_ble_eq_true rfl, Nat.le_of_ble_eq_true rfl⟩) hK hN (hZ.kept hS) hP (hP.sub [3, 0, 1, 2] rfl) (va_recv (q := (RX8, TX8, 38)) hK hP (ci := 8) (q0 := 3) rfl rfl) rfl hl.1 rfl (Nat.le_of_ble_eq_true rfl) dX8_dayIn_74 ⟨Nat.le_of_ble_eq_true rfl, Nat.le_of_ble_eq_true rfl⟩ (fun r_30 hr_30 => ?_)
                  obtain ⟨g_31, g_32, hsr_30_0⟩ := hr_30
                  have hne : 0 ≤ r_30.toInt := by (by_cases h : r_30.toInt = -1; (exfalso; obtain ⟨p, a, b⟩ := hsr_25_0.2 (by omega); exact hsr_30_0.1 h p a b); omega)
                  skip
                  refine zw_Vv (As := [.int r_30]) (rest := []) (wr := [(mla, .inl (cI, 40, .inl gla)), (msl, .inl (cI, 40, .inl gsl))]) ⟨hx, hb, hml, hown, hts⟩ (c_M_makes l D cI cJ cZ cP cS po m0 mrf mki mpa mta mla msl mco mhe mso msi msh mce mca mwo mnu mte mwa mke mma mth mtr (npu) (nte) (q_11) (v_15) (v_16) (v_17) (nhu) (nga) (v_18) (nfa) (nba) (npl) (nen) (nnu) (nwr) (nra) (nik) gki gpa gta (r_30) hy0 hy1 hy2 hy3 hbq_11.1 hbq_11.2 hbv_15.1 hbv_15.2 hy8 hy9 hy10 hy11 hy12 hy13 (by omega) (by omega) hp_gki hp_gpa hp_gta H.size) (cwV 1 hts gX8_dayIn_X8_makes rfl rfl rfl ⟨rfl, dh_X8_makes⟩ ⟨Nat.le_of_ble_eq_true rfl, Nat.le_of_ble_eq_true rfl⟩) hK hN (hZ.kept hS) hP hD hS hA [3, 0, 1, 2] [4, 5] rfl rfl (by decide) (by decide) (by decide) (va_recv (q := (RX8, TX8, 38)) hK hP (ci := 8) (q0 := 3) rfl rfl) rfl hl.1 rfl (Nat.le_of_ble_eq_true rfl) dX8_dayIn_77 ⟨Nat.le_of_ble_eq_true rfl, Nat.le_of_ble_eq_true rfl⟩ (fun u_34 H locs hr_33 hP hD hS => ?_)
                  obtain ⟨q_35, q_36, q_37, q_38⟩ := u_34
                  try dsimp only at hr_33
                  obtain ⟨hbq_35, hr_33⟩ := hr_33
                  have h9R := zRe (ws' := [(mla, .inl (cI, 40, .inl gla)), (msl, .inl (cI, 40, .inl gsl)), (zMO m0 npu nte q_11 q_35 q_36 q_37 nhu nga q_38 nfa mrf mki mpa mta mla msl mco mhe mso msi msh mce mca mwo mnu mte nba npl nen nnu nwr mwa mke mma mth mtr nra nik), (mki, .inl (cI, 8, .inl gki)), (mpa, .inl (cI, 8, .inl gpa)), (mta, .inl (cI, 8, .inl gta))]) hP hD rfl
                  clear hP hD
                  obtain ⟨hP, hD⟩ := h9R
                  obtain ⟨x_39, ex_39⟩ : ∃ y : Int32, y = i_49 + 1 := ⟨_, rfl⟩
                  have qx_39 : x_39.toInt = i_49.toInt + 1 := dw_incK ex_39 fc_21 (by decide)
                  refine lv_iinc (v := x_39) (lv' := [(2, .int x_39), (1, .int i_18), (0, .ref m0)]) hx hb dX8_dayIn_80 hl (k := 0) rfl ex_39.symm (by decide) rfl (fun ls hl => ?_)
                  refine lv_goto (tgt := 49) hx hb dX8_dayIn_83 (by decide) ?_
                  exact ih_49 x_39 (q_38) (q_37) (q_36) (q_35) _ _ _ (hP.sub [3, 4, 5, 2, 0, 1] rfl) (hD.sub [3, 4, 5, 2, 0, 1] (by decide) rfl) hS (lv_sub hl [0, 1, 2] rfl) hbq_35 (dw_lo hloi_49 qx_39) (dw_hn hni_49 qx_39)
        · have fc_14 : q_11.toInt = nte.toInt := zf_eq c_14 rfl rfl
          refine lv_iconst (v := 1) hx hb dX8_dayIn_45 (by decide) ?_
          exact W.zret (v := 1) hx hb hr (by decide) (fun t ht hW => ⟨⟨1, (q_11, q_12, v_3, v_4, q_13), rfl, ⟨(show 0 ≤ q_11.toInt ∧ q_11.toInt ≤ 40 from hbq_11), (show 0 ≤ q_12.toInt ∧ q_12.toInt ≤ 24 from hbq_12), ⟨by decide, by decide⟩⟩, zRet ht hP hD [3, 0, 1, 2, 4, 5] (by decide) rfl⟩, hS.F ht⟩) hS.2.2 dX8_dayIn_46
set_option maxHeartbeats 4000000 in
set_option maxRecDepth 100000 in
theorem c_M_winter (l : Launch) (D : va_G) (cI cJ cZ cP cS : ClassId) (po : zPool) (m0 mrf mki mpa mta mla msl mco mhe mso msi msh mce mca mwo mnu mte mwa mke mma mth mtr : Nat) (npu nte nat_ nde nto nse nhu nga nsd nfa nba npl nen nnu nwr nra nik : Int32) (grf gki gpa gta gla gsl : Nat → Int32) (n : Int32) (hy0 : 0 ≤ npu.toInt) (hy1 : npu.toInt ≤ 8) (hy2 : 4 ≤ nte.toInt) (hy3 : nte.toInt ≤ 40) (hy4 : 0 ≤ nat_.toInt) (hy5 : nat_.toInt ≤ 40) (hy6 : 0 ≤ nde.toInt) (hy7 : nde.toInt ≤ 24) (hy8 : 0 ≤ nhu.toInt) (hy9 : nhu.toInt ≤ 9) (hy10 : 0 ≤ nra.toInt) (hy11 : nra.toInt ≤ 2000) (hy12 : 0 ≤ nik.toInt) (hy13 : nik.toInt ≤ 1) (hp_gki : zRg gki (0) 6) (hp_gpa : zRg gpa (0) 9) (hp_gta : zRg gta (0) 60) (hp_gla : zRg gla (0) 1) (hp_gsl : zRg gsl (0) 9) (hpz : Nat) : Met l yX8_winter wsX8_winter ({ frames := 7, cells := 0, slots := 0, locals := 176 }) (va_Pc [.ref m0, .int n] (zW D (zKT cI cJ cZ cP cS) po [(zMO m0 npu nte nat_ nde nto nse nhu nga nsd nfa mrf mki mpa mta mla msl mco mhe mso msi msh mce mca mwo mnu mte nba npl nen nnu nwr mwa mke mma mth mtr nra nik), (mrf, .inl (cI, 8, .inl grf)), (mki, .inl (cI, 8, .inl gki)), (mpa, .inl (cI, 8, .inl gpa)), (mta, .inl (cI, 8, .inl gta)), (mla, .inl (cI, 40, .inl gla)), (msl, .inl (cI, 40, .inl gsl))] hpz)) (va_Qi (fun (r : Int32) (u : (Int32) × (Int32) × (Int32) × (Int32) × (Int32) × (Nat → Int32)) => (0 ≤ u.1.toInt ∧ u.1.toInt ≤ 40) ∧ (0 ≤ u.2.1.toInt ∧ u.2.1.toInt ≤ 24) ∧ (True)) (zB D [(zMO m0 npu nte nat_ nde nto nse nhu nga nsd nfa mrf mki mpa mta mla msl mco mhe mso msi msh mce mca mwo mnu mte nba npl nen nnu nwr mwa mke mma mth mtr nra nik), (mrf, .inl (cI, 8, .inl grf)), (mki, .inl (cI, 8, .inl gki)), (mpa, .inl (cI, 8, .inl gpa)), (mta, .inl (cI, 8, .inl gta)), (mla, .inl (cI, 40, .inl gla)), (msl, .inl (cI, 40, .inl gsl))] hpz (fun (u : (Int32) × (Int32) × (Int32) × (Int32) × (Int32) × (Nat → Int32)) => [(zMO m0 npu nte u.1 u.2.1 u.2.2.1 u.2.2.2.1 nhu nga u.2.2.2.2.1 nfa mrf mki mpa mta mla msl mco mhe mso msi msh mce mca mwo mnu mte nba npl nen nnu nwr mwa mke mma mth mtr nra nik), (mrf, .inl (cI, 8, .inl u.2.2.2.2.2)), (mki, .inl (cI, 8, .inl gki)), (mpa, .inl (cI, 8, .inl gpa)), (mta, .inl (cI, 8, .inl gta)), (mla, .inl (cI, 40, .inl gla)), (msl, .inl (cI, 40, .inl gsl))])) (va_A [(zMO m0 npu nte nat_ nde nto nse nhu nga nsd nfa mrf mki mpa mta mla msl mco mhe mso msi msh mce mca mwo mnu mte nba npl nen nnu nwr mwa mke mma mth mtr nra nik), (mrf, .inl (cI, 8, .inl grf)), (mki, .inl (cI, 8, .inl gki)), (mpa, .inl (cI, 8, .inl gpa)), (mta, .inl (cI, 8, .inl gta)), (mla, .inl (cI, 40, .inl gla)), (msl, .inl (cI, 40, .inl gsl))] hpz)) 0 0 (va_A [(zMO m0 npu nte nat_ nde nto nse nhu nga nsd nfa mrf mki mpa mta mla msl mco mhe mso msi msh mce mca mwo mnu mte nba npl nen nnu nwr mwa mke mma mth mtr nra nik), (mrf, .inl (cI, 8, .inl grf)), (mki, .inl (cI, 8, .inl gki)), (mpa, .inl (cI, 8, .inl gpa)), (mta, .inl (cI, 8, .inl gta)), (mla, .inl (cI, 40, .inl gla)), (msl, .inl (cI, 40, .inl gsl))] hpz) := by
  refine Met.ofW (cc := cX8_winter) (maxL := 4) (ret := (some .int)) (by decide) rfl ?_
  intro p e s m args below meth c s₁ B hml hv
  obtain ⟨rfl, hsz, hP, hK, hD0, hN, hZ⟩ := hv
  have hx := B.exec
  have hb := B.bytes
  have hr := B.returns
  have hts := atoms_spec (ws := wsX8_winter) B.pre
  have hown : s.vm.findClass RX8 = some m.cls := findClass_of_methodNamed B.named
  have hlocks := B.notSynchronized
  subst hsz
  have hD := hD0.self (sz := s.heap.size)
  have hA := zA_of hD
  have hl := lv_entry ([.ref m0, .int n]) (n := 4) (Nat.le_of_ble_eq_true rfl)
  rw [lg_entry_eq]
  generalize (lg_sl ([.ref m0, .int n]) ++ List.replicate (4 - (lg_sl ([.ref m0, .int n])).length) Slot.unset).toArray = ls at hl ⊢
  replace hl : lv_has ls 4 [(0, .ref m0), (1, .int n)] := hl
  refine zw_begin hP hD (fun H locs hP1 hS => ?_)
  clear hP
  have hP := hP1
  clear hP1
  refine lv_iload_n hx hb dX8_winter_0 rfl (lv_at hl 1 rfl) ?_
  refine lv_iconst (v := 1) hx hb dX8_winter_1 (by decide) ?_
  refine lv_icmp_lt (tgt := 11) hx hb dX8_winter_2 (by decide) (fun c_1 => ?_) (fun c_1 => ?_)
  · have fc_1 : n.toInt < 1 := zf_lt c_1 rfl (by decide)
    refine lv_aload_n hx hb dX8_winter_11 rfl (lv_at hl 0 rfl) ?_
    refine lv_bipush (v := (-6)) hx hb dX8_winter_12 (by decide) ?_
    skip
    refine zw_V (As := [.int (-6)]) (rest := []) (wr := [(mki, .inl (cI, 8, .inl gki)), (mpa, .inl (cI, 8, .inl gpa)), (mta, .inl (cI, 8, .inl gta)), (mla, .inl (cI, 40, .inl gla)), (msl, .inl (cI, 40, .inl gsl))]) ⟨hx, hb, hml, hown, hts⟩ (c_M_no_6 l D cI cJ cZ cP cS po m0 mrf mki mpa mta mla msl mco mhe mso msi msh mce mca mwo mnu mte mwa mke mma mth mtr (npu) (nte) (nat_) (nde) (nto) (nse) (nhu) (nga) (nsd) (nfa) (nba) (npl) (nen) (nnu) (nwr) (nra) (nik) grf hy0 hy1 hy2 hy3 hy4 hy5 hy6 hy7 hy8 hy9 hy10 hy11 hy12 hy13 H.size) (cwV 1 hts gX8_winter_X8_no rfl rfl rfl ⟨rfl, dh_X8_no⟩ ⟨Nat.le_of_ble_eq_true rfl, Nat.le_of_ble_eq_true rfl⟩) hK hN (hZ.kept hS) hP hD hS hA [0, 1] [2, 3, 4, 5, 6] rfl rfl (by decide) (by decide) (by decide) (va_recv (q := (RX8, TX8, 38)) hK hP (ci := 8) (q0 := 0) rfl rfl) rfl hl.1 rfl (Nat.le_of_ble_eq_true rfl) dX8_winter_14 ⟨Nat.le_of_ble_eq_true rfl, Nat.le_of_ble_eq_true rfl⟩ (fun r_2 u_3 H locs hr_2 hP hD hS => ?_)
    obtain ⟨q_4, rfl⟩ : ∃ z, z = u_3 := ⟨_, rfl⟩
    have h9R := zRe (ws' := [(mki, .inl (cI, 8, .inl gki)), (mpa, .inl (cI, 8, .inl gpa)), (mta, .inl (cI, 8, .inl gta)), (mla, .inl (cI, 40, .inl gla)), (msl, .inl (cI, 40, .inl gsl)), (zMO m0 npu nte nat_ nde nto nse nhu nga nsd nfa mrf mki mpa mta mla msl mco mhe mso msi msh mce mca mwo mnu mte nba npl nen nnu nwr mwa mke mma mth mtr nra nik), (mrf, .inl (cI, 8, .inl q_4))]) hP hD rfl
    clear hP hD
    obtain ⟨hP, hD⟩ := h9R
    obtain rfl := hr_2
    exact W.iret (v := (-6)) hx hb hr (fun t ht hW => ⟨⟨(-6), (nat_, nde, nto, nse, nsd, q_4), rfl, ⟨(show 0 ≤ nat_.toInt ∧ nat_.toInt ≤ 40 from ⟨hy4, hy5⟩), (show 0 ≤ nde.toInt ∧ nde.toInt ≤ 24 from ⟨hy6, hy7⟩), trivial⟩, zRet ht hP hD [5, 6, 0, 1, 2, 3, 4] (by decide) rfl⟩, hS.F ht⟩) hS.2.2 dX8_winter_17
  · have fc_1 : 1 ≤ n.toInt := zf_nlt c_1 rfl (by decide)
    refine lv_iload_n hx hb dX8_winter_5 rfl (lv_at hl 1 rfl) ?_
    refine lv_bipush (v := 60) hx hb dX8_winter_6 (by decide) ?_
    refine lv_icmp_le (tgt := 18) hx hb dX8_winter_8 (by decide) (fun c_5 => ?_) (fun c_5 => ?_)
    · have fc_5 : n.toInt ≤ 60 := zf_le c_5 rfl (by decide)
      refine lv_iconst (v := 0) hx hb dX8_winter_18 (by decide) ?_
      refine lv_istore_n (lv' := [(2, .int 0), (0, .ref m0), (1, .int n)]) hx hb dX8_winter_19 rfl hl (by decide) rfl (fun ls hl => ?_)
      refine lv_iconst (v := 0) hx hb dX8_winter_20 (by decide) ?_
      refine lv_istore_n (lv' := [(3, .int 0), (2, .int 0), (0, .ref m0), (1, .int n)]) hx hb dX8_winter_21 rfl hl (by decide) rfl (fun ls hl => ?_)
      obtain ⟨i_22, hi_22⟩ : ∃ i : Int32, i = 0 := ⟨_, rfl⟩
      replace hl : lv_has ls 4 [(3, .int i_22), (2, .int 0), (0, .ref m0), (1, .int n)] := by rw [hi_22]; exact lv_sub hl [0, 1, 2, 3] rfl
      have h1i_22 : i_22.toInt = 0 := by rw [hi_22]; decide
      obtain ⟨nfu, hni_22⟩ : ∃ nq9 : Nat, n.toInt ≤ i_22.toInt + (nq9 : Int) := ⟨((n.toInt : Int) - 0).toNat, by omega⟩
      have hloi_22 : 0 ≤ i_22.toInt := by omega
      obtain ⟨v_6, hv_6⟩ : ∃ g : Int32, g = nat_ := ⟨_, rfl⟩
      have hbv_6 : 0 ≤ v_6.toInt ∧ v_6.toInt ≤ 40 := by rw [hv_6]; exact ⟨by omega, by omega⟩
      obtain ⟨v_7, hv_7⟩ : ∃ g : Int32, g = nde := ⟨_, rfl⟩
      have hbv_7 : 0 ≤ v_7.toInt ∧ v_7.toInt ≤ 24 := by rw [hv_7]; exact ⟨by omega, by omega⟩
      obtain ⟨v_8, hv_8⟩ : ∃ g : Int32, g = nto := ⟨_, rfl⟩
      obtain ⟨v_9, hv_9⟩ : ∃ g : Int32, g = nse := ⟨_, rfl⟩
      obtain ⟨v_10, hv_10⟩ : ∃ g : Int32, g = nsd := ⟨_, rfl⟩
      replace hP : va_P D vwCl [(zMO m0 npu nte v_6 v_7 v_8 v_9 nhu nga v_10 nfa mrf mki mpa mta mla msl mco mhe mso msi msh mce mca mwo mnu mte nba npl nen nnu nwr mwa mke mma mth mtr nra nik), (mrf, .inl (cI, 8, .inl grf)), (mki, .inl (cI, 8, .inl gki)), (mpa, .inl (cI, 8, .inl gpa)), (mta, .inl (cI, 8, .inl gta)), (mla, .inl (cI, 40, .inl gla)), (msl, .inl (cI, 40, .inl gsl))] H := by rw [hv_6, hv_7, hv_8, hv_9, hv_10]; exact hP
      replace hD : va_D (va_A [(zMO m0 npu nte nat_ nde nto nse nhu nga nsd nfa mrf mki mpa mta mla msl mco mhe mso msi msh mce mca mwo mnu mte nba npl nen nnu nwr mwa mke mma mth mtr nra nik), (mrf, .inl (cI, 8, .inl grf)), (mki, .inl (cI, 8, .inl gki)), (mpa, .inl (cI, 8, .inl gpa)), (mta, .inl (cI, 8, .inl gta)), (mla, .inl (cI, 40, .inl gla)), (msl, .inl (cI, 40, .inl gsl))] s.heap.size) [(zMO m0 npu nte v_6 v_7 v_8 v_9 nhu nga v_10 nfa mrf mki mpa mta mla msl mco mhe mso msi msh mce mca mwo mnu mte nba npl nen nnu nwr mwa mke mma mth mtr nra nik), (mrf, .inl (cI, 8, .inl grf)), (mki, .inl (cI, 8, .inl gki)), (mpa, .inl (cI, 8, .inl gpa)), (mta, .inl (cI, 8, .inl gta)), (mla, .inl (cI, 40, .inl gla)), (msl, .inl (cI, 40, .inl gsl))] := by rw [hv_6, hv_7, hv_8, hv_9, hv_10]; exact hD
      obtain ⟨v_11, hv_11⟩ : ∃ g : Int32, g = 0 := ⟨_, rfl⟩
      replace hl : lv_has ls 4 [(3, .int i_22), (2, .int v_11), (0, .ref m0), (1, .int n)] := by rw [hv_11]; exact hl
      clear h1i_22 hi_22 hv_6 hv_7 hv_8 hv_9 hv_10 hv_11
      skip
      revert hni_22
      revert hloi_22
      revert hbv_7
      revert hbv_6
      revert hl
      revert hS
      revert hD
      revert hP
      revert ls
      revert locs
      revert H
      revert v_6
      revert v_7
      revert v_8
      revert v_9
      revert v_10
      revert v_11
      revert i_22
      induction nfu with
      | zero =>
        intro i_22 v_11 v_10 v_9 v_8 v_7 v_6 H locs ls hP hD hS hl hbv_6 hbv_7 hloi_22 hni_22
        have hzi_22 : n.toInt ≤ i_22.toInt := by omega
        refine lv_iload_n hx hb dX8_winter_22 rfl (lv_at hl 0 rfl) ?_
        refine lv_iload_n hx hb dX8_winter_23 rfl (lv_at hl 3 rfl) ?_
        refine lv_icmp_ge (tgt := 43) hx hb dX8_winter_24 (by decide) (fun c_12 => ?_) (fun c_12 => ?_)
        · have fc_12 : n.toInt ≤ i_22.toInt := zf_le c_12 rfl rfl
          refine lv_iload_n hx hb dX8_winter_43 rfl (lv_at hl 1 rfl) ?_
          exact W.iret (v := v_11) hx hb hr (fun t ht hW => ⟨⟨v_11, (v_6, v_7, v_8, v_9, v_10, grf), rfl, ⟨(show 0 ≤ v_6.toInt ∧ v_6.toInt ≤ 40 from hbv_6), (show 0 ≤ v_7.toInt ∧ v_7.toInt ≤ 24 from hbv_7), trivial⟩, zRet ht hP hD [0, 1, 2, 3, 4, 5, 6] (by decide) rfl⟩, hS.F ht⟩) hS.2.2 dX8_winter_44
        · exfalso; have fc_12 : i_22.toInt < n.toInt := zf_nle c_12 rfl rfl; omega
      | succ nfu ih =>
        intro i_22 v_11 v_10 v_9 v_8 v_7 v_6 H locs ls hP hD hS hl hbv_6 hbv_7 hloi_22 hni_22
        refine lv_iload_n hx hb dX8_winter_22 rfl (lv_at hl 0 rfl) ?_
        refine lv_iload_n hx hb dX8_winter_23 rfl (lv_at hl 3 rfl) ?_
        refine lv_icmp_ge (tgt := 43) hx hb dX8_winter_24 (by decide) (fun c_13 => ?_) (fun c_13 => ?_)
        · have fc_13 : n.toInt ≤ i_22.toInt := zf_le c_13 rfl rfl
          refine lv_iload_n hx hb dX8_winter_43 rfl (lv_at hl 1 rfl) ?_
          exact W.iret (v := v_11) hx hb hr (fun t ht hW => ⟨⟨v_11, (v_6, v_7, v_8, v_9, v_10, grf), rfl, ⟨(show 0 ≤ v_6.toInt ∧ v_6.toInt ≤ 40 from hbv_6), (show 0 ≤ v_7.toInt ∧ v_7.toInt ≤ 24 from hbv_7), trivial⟩, zRet ht hP hD [0, 1, 2, 3, 4, 5, 6] (by decide) rfl⟩, hS.F ht⟩) hS.2.2 dX8_winter_44
        · have fc_13 : i_22.toInt < n.toInt := zf_nle c_13 rfl rfl
          refine lv_aload_n hx hb dX8_winter_27 rfl (lv_at hl 2 rfl) ?_
          skip
          refine zw_V (As := []) (rest := []) (wr := [(mrf, .inl (cI, 8, .inl grf))]) ⟨hx, hb, hml, hown, hts⟩ (c_M_dayIn l D cI cJ cZ cP cS po m0 mrf mki mpa mta mla msl mco mhe mso msi msh mce mca mwo mnu mte mwa mke mma mth mtr (npu) (nte) (v_6) (v_7) (v_8) (v_9) (nhu) (nga) (v_10) (nfa) (nba) (npl) (nen) (nnu) (nwr) (nra) (nik) gki gpa gta gla gsl hy0 hy1 hy2 hy3 hbv_6.1 hbv_6.2 hbv_7.1 hbv_7.2 hy8 hy9 hy10 hy11 hy12 hy13 hp_gki hp_gpa hp_gta hp_gla hp_gsl H.size) (cwV 0 hts gX8_winter_X8_dayIn rfl rfl rfl ⟨rfl, dh_X8_dayIn⟩ ⟨Nat.le_of_ble_eq_true rfl, Nat.le_of_ble_eq_true rfl⟩) hK hN (hZ.kept hS) hP hD hS hA [0, 2, 3, 4, 5, 6] [1] rfl rfl (by decide) (by decide) (by decide) (va_recv (q := (RX8, TX8, 38)) hK hP (ci := 8) (q0 := 0) rfl rfl) rfl hl.1 rfl (Nat.le_of_ble_eq_true rfl) dX8_winter_28 ⟨Nat.le_of_ble_eq_true rfl, Nat.le_of_ble_eq_true rfl⟩ (fun r_14 u_15 H locs hr_14 hP hD hS => ?_)
          obtain ⟨q_16, q_17, q_18, q_19, q_20⟩ := u_15
          try dsimp only at hr_14
          obtain ⟨hbq_16, hbq_17, hr_14⟩ := hr_14
          have h9R := zRe (ws' := [(mrf, .inl (cI, 8, .inl grf)), (zMO m0 npu nte q_16 q_17 q_18 q_19 nhu nga q_20 nfa mrf mki mpa mta mla msl mco mhe mso msi msh mce mca mwo mnu mte nba npl nen nnu nwr mwa mke mma mth mtr nra nik), (mki, .inl (cI, 8, .inl gki)), (mpa, .inl (cI, 8, .inl gpa)), (mta, .inl (cI, 8, .inl gta)), (mla, .inl (cI, 40, .inl gla)), (msl, .inl (cI, 40, .inl gsl))]) hP hD rfl
          clear hP hD
          obtain ⟨hP, hD⟩ := h9R
          obtain ⟨g_21, g_22⟩ := hr_14
          refine lv_if_eq (tgt := 37) hx hb dX8_winter_31 (by decide) (fun c_23 => ?_) (fun c_23 => ?_)
          · have fc_23 : r_14.toInt = 0 := zf_eq c_23 rfl (by decide)
            obtain ⟨x_24, ex_24⟩ : ∃ y : Int32, y = i_22 + 1 := ⟨_, rfl⟩
            have qx_24 : x_24.toInt = i_22.toInt + 1 := dw_inc ex_24 fc_13
            refine lv_iinc (v := x_24) (lv' := [(3, .int x_24), (2, .int v_11), (0, .ref m0), (1, .int n)]) hx hb dX8_winter_37 hl (k := 0) rfl ex_24.symm (by decide) rfl (fun ls hl => ?_)
            refine lv_goto (tgt := 22) hx hb dX8_winter_40 (by decide) ?_
            exact ih x_24 v_11 (q_20) (q_19) (q_18) (q_17) (q_16) _ _ _ (hP.sub [1, 0, 2, 3, 4, 5, 6] rfl) (hD.sub [1, 0, 2, 3, 4, 5, 6] (by decide) rfl) hS (lv_sub hl [0, 1, 2, 3] rfl) hbq_16 hbq_17 (dw_lo hloi_22 qx_24) (dw_hn hni_22 qx_24)
          · have fc_23 : r_14.toInt ≠ 0 := zf_ne c_23 rfl (by decide)
            obtain ⟨x_25, ex_25⟩ : ∃ y : Int32, y = v_11 + 1 := ⟨_, rfl⟩
            refine lv_iinc (v := x_25) (lv' := [(2, .int x_25), (3, .int i_22), (0, .ref m0), (1, .int n)]) hx hb dX8_winter_34 hl (k := 1) rfl ex_25.symm (by decide) rfl (fun ls hl => ?_)
            obtain ⟨x_26, ex_26⟩ : ∃ y : Int32, y = i_22 + 1 := ⟨_, rfl⟩
            have qx_26 : x_26.toInt = i_22.toInt + 1 := dw_inc ex_26 fc_13
            refine lv_iinc (v := x_26) (lv' := [(3, .int x_26), (2, .int x_25), (0, .ref m0), (1, .int n)]) hx hb dX8_winter_37 hl (k := 1) rfl ex_26.symm (by decide) rfl (fun ls hl => ?_)
            refine lv_goto (tgt := 22) hx hb dX8_winter_40 (by decide) ?_
            exact ih x_26 x_25 (q_20) (q_19) (q_18) (q_17) (q_16) _ _ _ (hP.sub [1, 0, 2, 3, 4, 5, 6] rfl) (hD.sub [1, 0, 2, 3, 4, 5, 6] (by decide) rfl) hS (lv_sub hl [0, 1, 2, 3] rfl) hbq_16 hbq_17 (dw_lo hloi_22 qx_26) (dw_hn hni_22 qx_26)
    · have fc_5 : 60 < n.toInt := zf_nle c_5 rfl (by decide)
      refine lv_aload_n hx hb dX8_winter_11 rfl (lv_at hl 0 rfl) ?_
      refine lv_bipush (v := (-6)) hx hb dX8_winter_12 (by decide) ?_
      skip
      refine zw_V (As := [.int (-6)]) (rest := []) (wr := [(mki, .inl (cI, 8, .inl gki)), (mpa, .inl (cI, 8, .inl gpa)), (mta, .inl (cI, 8, .inl gta)), (mla, .inl (cI, 40, .inl gla)), (msl, .inl (cI, 40, .inl gsl))]) ⟨hx, hb, hml, hown, hts⟩ (c_M_no_6 l D cI cJ cZ cP cS po m0 mrf mki mpa mta mla msl mco mhe mso msi msh mce mca mwo mnu mte mwa mke mma mth mtr (npu) (nte) (nat_) (nde) (nto) (nse) (nhu) (nga) (nsd) (nfa) (nba) (npl) (nen) (nnu) (nwr) (nra) (nik) grf hy0 hy1 hy2 hy3 hy4 hy5 hy6 hy7 hy8 hy9 hy10 hy11 hy12 hy13 H.size) (cwV 1 hts gX8_winter_X8_no rfl rfl rfl ⟨rfl, dh_X8_no⟩ ⟨Nat.le_of_ble_eq_true rfl, Nat.le_of_ble_eq_true rfl⟩) hK hN (hZ.kept hS) hP hD hS hA [0, 1] [2, 3, 4, 5, 6] rfl rfl (by decide) (by decide) (by decide) (va_recv (q := (RX8, TX8, 38)) hK hP (ci := 8) (q0 := 0) rfl rfl) rfl hl.1 rfl (Nat.le_of_ble_eq_true rfl) dX8_winter_14 ⟨Nat.le_of_ble_eq_true rfl, Nat.le_of_ble_eq_true rfl⟩ (fun r_27 u_28 H locs hr_27 hP hD hS => ?_)
      obtain ⟨q_29, rfl⟩ : ∃ z, z = u_28 := ⟨_, rfl⟩
      have h9R := zRe (ws' := [(mki, .inl (cI, 8, .inl gki)), (mpa, .inl (cI, 8, .inl gpa)), (mta, .inl (cI, 8, .inl gta)), (mla, .inl (cI, 40, .inl gla)), (msl, .inl (cI, 40, .inl gsl)), (zMO m0 npu nte nat_ nde nto nse nhu nga nsd nfa mrf mki mpa mta mla msl mco mhe mso msi msh mce mca mwo mnu mte nba npl nen nnu nwr mwa mke mma mth mtr nra nik), (mrf, .inl (cI, 8, .inl q_29))]) hP hD rfl
      clear hP hD
      obtain ⟨hP, hD⟩ := h9R
      obtain rfl := hr_27
      exact W.iret (v := (-6)) hx hb hr (fun t ht hW => ⟨⟨(-6), (nat_, nde, nto, nse, nsd, q_29), rfl, ⟨(show 0 ≤ nat_.toInt ∧ nat_.toInt ≤ 40 from ⟨hy4, hy5⟩), (show 0 ≤ nde.toInt ∧ nde.toInt ≤ 24 from ⟨hy6, hy7⟩), trivial⟩, zRet ht hP hD [5, 6, 0, 1, 2, 3, 4] (by decide) rfl⟩, hS.F ht⟩) hS.2.2 dX8_winter_17
theorem gl_X8_seed_X80 : GoodIn wsX8_seed wsX80 := (dg_t (dg_t gw_wsX80))
theorem hi_X8_seed_8 : ∀ w ∈ u_ws RX8 TX8 38, w ∈ wsX8_seed := fun w h => (gl_X8_seed_X80 w h).1
set_option maxHeartbeats 4000000 in
set_option maxRecDepth 100000 in
theorem c_M_seed (l : Launch) (D : va_G) (cI cJ cZ cP cS : ClassId) (po : zPool) (m0 mrf mki mpa mta mla msl mco mhe mso msi msh mce mca mwo mnu mte mwa mke mma mth mtr : Nat) (npu nte nat_ nde nto nse nhu nga nsd nfa nba npl nen nnu nwr nra nik : Int32) (v : Int32) (hy0 : 0 ≤ npu.toInt) (hy1 : npu.toInt ≤ 8) (hy2 : 4 ≤ nte.toInt) (hy3 : nte.toInt ≤ 40) (hy4 : 0 ≤ nat_.toInt) (hy5 : nat_.toInt ≤ 40) (hy6 : 0 ≤ nde.toInt) (hy7 : nde.toInt ≤ 24) (hy8 : 0 ≤ nhu.toInt) (hy9 : nhu.toInt ≤ 9) (hy10 : 0 ≤ nra.toInt) (hy11 : nra.toInt ≤ 2000) (hy12 : 0 ≤ nik.toInt) (hy13 : nik.toInt ≤ 1) (hpz : Nat) : Met l yX8_seed wsX8_seed ({ frames := 0, cells := 0, slots := 0, locals := 0 }) (va_Pc [.ref m0, .int v] (zW D (zKT cI cJ cZ cP cS) po [(zMO m0 npu nte nat_ nde nto nse nhu nga nsd nfa mrf mki mpa mta mla msl mco mhe mso msi msh mce mca mwo mnu mte nba npl nen nnu nwr mwa mke mma mth mtr nra nik)] hpz)) (va_Qi (fun (r : Int32) (nsd2 : (Int32)) => True) (zB D [(zMO m0 npu nte nat_ nde nto nse nhu nga nsd nfa mrf mki mpa mta mla msl mco mhe mso msi msh mce mca mwo mnu mte nba npl nen nnu nwr mwa mke mma mth mtr nra nik)] hpz (fun (nsd2 : Int32) => [(zMO m0 npu nte nat_ nde nto nse nhu nga nsd2 nfa mrf mki mpa mta mla msl mco mhe mso msi msh mce mca mwo mnu mte nba npl nen nnu nwr mwa mke mma mth mtr nra nik)])) (va_A [(zMO m0 npu nte nat_ nde nto nse nhu nga nsd nfa mrf mki mpa mta mla msl mco mhe mso msi msh mce mca mwo mnu mte nba npl nen nnu nwr mwa mke mma mth mtr nra nik)] hpz)) 0 0 (va_A [(zMO m0 npu nte nat_ nde nto nse nhu nga nsd nfa mrf mki mpa mta mla msl mco mhe mso msi msh mce mca mwo mnu mte nba npl nen nnu nwr mwa mke mma mth mtr nra nik)] hpz) := by
  refine Met.ofW (cc := cX8_seed) (maxL := 3) (ret := (some .int)) (by decide) rfl ?_
  intro p e s m args below meth c s₁ B hml hv
  obtain ⟨rfl, hsz, hP, hK, hD0, hN, hZ⟩ := hv
  have hx := B.exec
  have hb := B.bytes
  have hr := B.returns
  have hts := atoms_spec (ws := wsX8_seed) B.pre
  have hown : s.vm.findClass RX8 = some m.cls := findClass_of_methodNamed B.named
  have hlocks := B.notSynchronized
  subst hsz
  have hD := hD0.self (sz := s.heap.size)
  have hA := zA_of hD
  have hl := lv_entry ([.ref m0, .int v]) (n := 3) (Nat.le_of_ble_eq_true rfl)
  rw [lg_entry_eq]
  generalize (lg_sl ([.ref m0, .int v]) ++ List.replicate (3 - (lg_sl ([.ref m0, .int v])).length) Slot.unset).toArray = ls at hl ⊢
  replace hl : lv_has ls 3 [(0, .ref m0), (1, .int v)] := hl
  refine zw_begin hP hD (fun H locs hP1 hS => ?_)
  clear hP
  have hP := hP1
  clear hP1
  refine lv_aload_n hx hb dX8_seed_0 rfl (lv_at hl 0 rfl) ?_
  refine va_get (D := D) (ci := 8) (v := .int nsd) (C := RX8) (T := TX8) (N := 38) hx hb hts hi_X8_seed_8 hown hK hP 0 rfl rfl 8 (by decide) (hts (.fieldLink RX8 19 "TheLiningsInItModel" "seed" "I") (List.mem_of_getElem? (i := 1) rfl)) (fun _ h9 => h9) rfl dX8_seed_1 ?_
  refine lv_istore_n (lv' := [(2, .int nsd), (0, .ref m0), (1, .int v)]) hx hb dX8_seed_4 rfl hl (by decide) rfl (fun ls hl => ?_)
  refine lv_aload_n hx hb dX8_seed_5 rfl (lv_at hl 1 rfl) ?_
  refine lv_iload_n hx hb dX8_seed_6 rfl (lv_at hl 2 rfl) ?_
  refine va_put (D := D) (ci := 8) (v := .int v) (ty := .int) (C := RX8) (T := TX8) (N := 38) hx hb hts hi_X8_seed_8 tyX8 tyX8_ok nmX8 hown hK hP hD hS 0 rfl rfl 8 (by decide) (hts (.fieldLink RX8 19 "TheLiningsInItModel" "seed" "I") (List.mem_of_getElem? (i := 1) rfl)) (fun _ h9 => h9) rfl (tyX8_ok 8 (Nat.le_of_ble_eq_true rfl)) rfl rfl (Nat.le_of_ble_eq_true rfl) dX8_seed_7 (fun H locs hP hD hS => ?_)
  have h9R := zRe (ws' := [(zMO m0 npu nte nat_ nde nto nse nhu nga v nfa mrf mki mpa mta mla msl mco mhe mso msi msh mce mca mwo mnu mte nba npl nen nnu nwr mwa mke mma mth mtr nra nik)]) hP hD rfl
  clear hP hD
  obtain ⟨hP, hD⟩ := h9R
  refine lv_iload_n hx hb dX8_seed_10 rfl (lv_at hl 0 rfl) ?_
  exact W.iret (v := nsd) hx hb hr (fun t ht hW => ⟨⟨nsd, v, rfl, trivial, zRet ht hP hD [0] (by decide) rfl⟩, hS.F ht⟩) hS.2.2 dX8_seed_11
end
