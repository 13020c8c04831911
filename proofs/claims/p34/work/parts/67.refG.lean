section
theorem hi_X8_judge_8 : ∀ w ∈ u_ws RX8 TX8 38, w ∈ wsX8_judge := fun w h => (gl_X8_judge_X80 w h).1
set_option maxHeartbeats 4000000 in
set_option maxRecDepth 100000 in
theorem c_M_mayMake (l : Launch) (D : va_G) (cI cJ cZ cP cS : ClassId) (po : zPool) (m0 mrf mki mpa mta mla msl mco mhe mso msi msh mce mca mwo mnu mte mwa mke mma mth mtr : Nat) (npu nte nat_ nde nto nse nhu nga nsd nfa nba npl nen nnu nwr nra nik : Int32) (gki gpa : Nat → Int32) (p_ d to : Int32) (hy0 : 0 ≤ npu.toInt) (hy1 : npu.toInt ≤ 8) (hy2 : 4 ≤ nte.toInt) (hy3 : nte.toInt ≤ 40) (hy4 : 0 ≤ nat_.toInt) (hy5 : nat_.toInt ≤ 40) (hy6 : 0 ≤ nde.toInt) (hy7 : nde.toInt ≤ 24) (hy8 : 0 ≤ nhu.toInt) (hy9 : nhu.toInt ≤ 9) (hy10 : 0 ≤ nra.toInt) (hy11 : nra.toInt ≤ 2000) (hy12 : 0 ≤ nik.toInt) (hy13 : nik.toInt ≤ 1) (hy14 : 0 ≤ p_.toInt) (hy15 : p_.toInt ≤ 7) (hp_gki : zRg gki (0) 6) (hp_gpa : zRg gpa (0) 9) : Met l yX8_mayMake wsX8_mayMake ({ frames := 2, cells := 0, slots := 0, locals := 45 }) (va_Pc [.ref m0, .int p_, .int d, .int to] (zR D (zKT cI cJ cZ cP cS) po [(zMO m0 npu nte nat_ nde nto nse nhu nga nsd nfa mrf mki mpa mta mla msl mco mhe mso msi msh mce mca mwo mnu mte nba npl nen nnu nwr mwa mke mma mth mtr nra nik), (mki, .inl (cI, 8, .inl gki)), (mpa, .inl (cI, 8, .inl gpa))])) (vp_Si (fun r => 0 ≤ r.toInt ∧ r.toInt ≤ 1)) 0 0 (fun _ => False) := by
  refine Met.ofW (cc := cX8_mayMake) (maxL := 5) (ret := (some .boolean)) (by decide) rfl ?_
  intro p e s m args below meth c s₁ B hml hv
  obtain ⟨rfl, hP, hK, hN, hZ⟩ := hv
  have hx := B.exec
  have hb := B.bytes
  have hr := B.returns
  have hts := atoms_spec (ws := wsX8_mayMake) B.pre
  have hown : s.vm.findClass RX8 = some m.cls := findClass_of_methodNamed B.named
  have hlocks := B.notSynchronized
  have hl := lv_entry ([.ref m0, .int p_, .int d, .int to]) (n := 5) (Nat.le_of_ble_eq_true rfl)
  rw [lg_entry_eq]
  generalize (lg_sl ([.ref m0, .int p_, .int d, .int to]) ++ List.replicate (5 - (lg_sl ([.ref m0, .int p_, .int d, .int to])).length) Slot.unset).toArray = ls at hl ⊢
  replace hl : lv_has ls 5 [(0, .ref m0), (1, .int p_), (2, .int d), (3, .int to)] := hl
  refine lv_iload_n hx hb dX8_mayMake_0 rfl (lv_at hl 2 rfl) ?_
  refine lv_if_ne (tgt := 6) hx hb dX8_mayMake_1 (by decide) (fun c_1 => ?_) (fun c_1 => ?_)
  · have fc_1 : d.toInt ≠ 0 := zf_ne c_1 rfl (by decide)
    refine lv_aload_n hx hb dX8_mayMake_6 rfl (lv_at hl 0 rfl) ?_
    refine lv_iload_n hx hb dX8_mayMake_7 rfl (lv_at hl 1 rfl) ?_
    refine lv_iload_n hx hb dX8_mayMake_8 rfl (lv_at hl 2 rfl) ?_
    refine zc_V (As := [.int p_, .int d]) (rest := []) ⟨hx, hb, hml, hown, hts⟩ (c_M_ways l D cI cJ cZ cP cS po m0 mrf mki mpa mta mla msl mco mhe mso msi msh mce mca mwo mnu mte mwa mke mma mth mtr (npu) (nte) (nat_) (nde) (nto) (nse) (nhu) (nga) (nsd) (nfa) (nba) (npl) (nen) (nnu) (nwr) (nra) (nik) gki gpa (p_) (d) hy0 hy1 hy2 hy3 hy4 hy5 hy6 hy7 hy8 hy9 hy10 hy11 hy12 hy13 hy14 hy15 hp_gki hp_gpa) (cwV 2 hts gX8_mayMake_X8_ways rfl rfl rfl ⟨rfl, dh_X8_ways⟩ ⟨Nat.le_of_ble_eq_true rfl, Nat.le_of_ble_eq_true rfl⟩) hK hN hZ hP (hP.sub [0, 1, 2] rfl) (va_recv (q := (RX8, TX8, 38)) hK hP (ci := 8) (q0 := 0) rfl rfl) rfl hl.1 rfl (Nat.le_of_ble_eq_true rfl) dX8_mayMake_9 ⟨Nat.le_of_ble_eq_true rfl, Nat.le_of_ble_eq_true rfl⟩ (fun r_2 hr_2 => ?_)
    obtain ⟨g_3, g_4⟩ := hr_2
    refine lv_istore (lv' := [(4, .int r_2), (0, .ref m0), (1, .int p_), (2, .int d), (3, .int to)]) hx hb dX8_mayMake_12 hl (by decide) rfl (fun ls hl => ?_)
    refine lv_iload hx hb dX8_mayMake_14 (lv_at hl 0 rfl) ?_
    refine lv_if_le (tgt := 30) hx hb dX8_mayMake_16 (by decide) (fun c_5 => ?_) (fun c_5 => ?_)
    · have fc_5 : r_2.toInt ≤ 0 := zf_le c_5 rfl (by decide)
      refine lv_iload hx hb dX8_mayMake_30 (lv_at hl 0 rfl) ?_
      refine lv_bipush (v := 12) hx hb dX8_mayMake_32 (by decide) ?_
      refine lv_icmp_ge (tgt := 52) hx hb dX8_mayMake_34 (by decide) (fun c_6 => ?_) (fun c_6 => ?_)
      · exfalso; have fc_6 : 12 ≤ r_2.toInt := zf_le c_6 (by decide) rfl; omega
      · have fc_6 : r_2.toInt < 12 := zf_nle c_6 (by decide) rfl
        refine lv_aload_n hx hb dX8_mayMake_37 rfl (lv_at hl 1 rfl) ?_
        refine lv_iload_n hx hb dX8_mayMake_38 rfl (lv_at hl 2 rfl) ?_
        refine lv_iload_n hx hb dX8_mayMake_39 rfl (lv_at hl 3 rfl) ?_
        refine lv_iconst (v := 0) hx hb dX8_mayMake_40 (by decide) ?_
        refine zc_V (As := [.int p_, .int d, .int 0]) (rest := []) ⟨hx, hb, hml, hown, hts⟩ (c_M_deep_any l D cI cJ cZ cP cS po m0 mrf mki mpa mta mla msl mco mhe mso msi msh mce mca mwo mnu mte mwa mke mma mth mtr (npu) (nte) (nat_) (nde) (nto) (nse) (nhu) (nga) (nsd) (nfa) (nba) (npl) (nen) (nnu) (nwr) (nra) (nik) gki gpa (p_) (d) (0) hy0 hy1 hy2 hy3 hy4 hy5 hy6 hy7 hy8 hy9 hy10 hy11 hy12 hy13 hy14 hy15 hp_gki hp_gpa) (cwV 3 hts gX8_mayMake_X8_deep rfl rfl rfl ⟨rfl, dh_X8_deep⟩ ⟨Nat.le_of_ble_eq_true rfl, Nat.le_of_ble_eq_true rfl⟩) hK hN hZ hP (hP.sub [0, 1, 2] rfl) (va_recv (q := (RX8, TX8, 38)) hK hP (ci := 8) (q0 := 0) rfl rfl) rfl hl.1 rfl (Nat.le_of_ble_eq_true rfl) dX8_mayMake_41 ⟨Nat.le_of_ble_eq_true rfl, Nat.le_of_ble_eq_true rfl⟩ (fun r_7 hr_7 => ?_)
        refine lv_iload_n hx hb dX8_mayMake_44 rfl (lv_at hl 4 rfl) ?_
        refine lv_icmp_ne (tgt := 52) hx hb dX8_mayMake_45 (by decide) (fun c_8 => ?_) (fun c_8 => ?_)
        · have fc_8 : r_7.toInt ≠ to.toInt := zf_ne c_8 rfl rfl
          refine lv_iconst (v := 0) hx hb dX8_mayMake_52 (by decide) ?_
          exact W.zret (v := 0) hx hb hr (by decide) (fun t ht hW => ⟨0, rfl, ⟨by decide, by decide⟩, ht⟩) (fun q hq => by cases hq) dX8_mayMake_53
        · have fc_8 : r_7.toInt = to.toInt := zf_eq c_8 rfl rfl
          refine lv_iconst (v := 1) hx hb dX8_mayMake_48 (by decide) ?_
          refine lv_goto (tgt := 53) hx hb dX8_mayMake_49 (by decide) ?_
          exact W.zret (v := 1) hx hb hr (by decide) (fun t ht hW => ⟨1, rfl, ⟨by decide, by decide⟩, ht⟩) (fun q hq => by cases hq) dX8_mayMake_53
    · have fc_5 : 0 < r_2.toInt := zf_nle c_5 rfl (by decide)
      refine lv_aload_n hx hb dX8_mayMake_19 rfl (lv_at hl 1 rfl) ?_
      refine lv_iload_n hx hb dX8_mayMake_20 rfl (lv_at hl 2 rfl) ?_
      refine lv_iload_n hx hb dX8_mayMake_21 rfl (lv_at hl 3 rfl) ?_
      refine lv_iconst (v := 1) hx hb dX8_mayMake_22 (by decide) ?_
      refine zc_V (As := [.int p_, .int d, .int 1]) (rest := []) ⟨hx, hb, hml, hown, hts⟩ (c_M_deep_any l D cI cJ cZ cP cS po m0 mrf mki mpa mta mla msl mco mhe mso msi msh mce mca mwo mnu mte mwa mke mma mth mtr (npu) (nte) (nat_) (nde) (nto) (nse) (nhu) (nga) (nsd) (nfa) (nba) (npl) (nen) (nnu) (nwr) (nra) (nik) gki gpa (p_) (d) (1) hy0 hy1 hy2 hy3 hy4 hy5 hy6 hy7 hy8 hy9 hy10 hy11 hy12 hy13 hy14 hy15 hp_gki hp_gpa) (cwV 3 hts gX8_mayMake_X8_deep rfl rfl rfl ⟨rfl, dh_X8_deep⟩ ⟨Nat.le_of_ble_eq_true rfl, Nat.le_of_ble_eq_true rfl⟩) hK hN hZ hP (hP.sub [0, 1, 2] rfl) (va_recv (q := (RX8, TX8, 38)) hK hP (ci := 8) (q0 := 0) rfl rfl) rfl hl.1 rfl (Nat.le_of_ble_eq_true rfl) dX8_mayMake_23 ⟨Nat.le_of_ble_eq_true rfl, Nat.le_of_ble_eq_true rfl⟩ (fun r_9 hr_9 => ?_)
      refine lv_iload_n hx hb dX8_mayMake_26 rfl (lv_at hl 4 rfl) ?_
      refine lv_icmp_eq (tgt := 48) hx hb dX8_mayMake_27 (by decide) (fun c_10 => ?_) (fun c_10 => ?_)
      · have fc_10 : r_9.toInt = to.toInt := zf_eq c_10 rfl rfl
        refine lv_iconst (v := 1) hx hb dX8_mayMake_48 (by decide) ?_
        refine lv_goto (tgt := 53) hx hb dX8_mayMake_49 (by decide) ?_
        exact W.zret (v := 1) hx hb hr (by decide) (fun t ht hW => ⟨1, rfl, ⟨by decide, by decide⟩, ht⟩) (fun q hq => by cases hq) dX8_mayMake_53
      · have fc_10 : r_9.toInt ≠ to.toInt := zf_ne c_10 rfl rfl
        refine lv_iload hx hb dX8_mayMake_30 (lv_at hl 0 rfl) ?_
        refine lv_bipush (v := 12) hx hb dX8_mayMake_32 (by decide) ?_
        refine lv_icmp_ge (tgt := 52) hx hb dX8_mayMake_34 (by decide) (fun c_11 => ?_) (fun c_11 => ?_)
        · have fc_11 : 12 ≤ r_2.toInt := zf_le c_11 (by decide) rfl
          refine lv_iconst (v := 0) hx hb dX8_mayMake_52 (by decide) ?_
          exact W.zret (v := 0) hx hb hr (by decide) (fun t ht hW => ⟨0, rfl, ⟨by decide, by decide⟩, ht⟩) (fun q hq => by cases hq) dX8_mayMake_53
        · have fc_11 : r_2.toInt < 12 := zf_nle c_11 (by decide) rfl
          refine lv_aload_n hx hb dX8_mayMake_37 rfl (lv_at hl 1 rfl) ?_
          refine lv_iload_n hx hb dX8_mayMake_38 rfl (lv_at hl 2 rfl) ?_
          refine lv_iload_n hx hb dX8_mayMake_39 rfl (lv_at hl 3 rfl) ?_
          refine lv_iconst (v := 0) hx hb dX8_mayMake_40 (by decide) ?_
          refine zc_V (As := [.int p_, .int d, .int 0]) (rest := []) ⟨hx, hb, hml, hown, hts⟩ (c_M_deep_any l D cI cJ cZ cP cS po m0 mrf mki mpa mta mla msl mco mhe mso msi msh mce mca mwo mnu mte mwa mke mma mth mtr (npu) (nte) (nat_) (nde) (nto) (nse) (nhu) (nga) (nsd) (nfa) (nba) (npl) (nen) (nnu) (nwr) (nra) (nik) gki gpa (p_) (d) (0) hy0 hy1 hy2 hy3 hy4 hy5 hy6 hy7 hy8 hy9 hy10 hy11 hy12 hy13 hy14 hy15 hp_gki hp_gpa) (cwV 3 hts gX8_mayMake_X8_deep rfl rfl rfl ⟨rfl, dh_X8_deep⟩ ⟨Nat.le_of_ble_eq_true rfl, Nat.le_of_ble_eq_true rfl⟩) hK hN hZ hP (hP.sub [0, 1, 2] rfl) (va_recv (q := (RX8, TX8, 38)) hK hP (ci := 8) (q0 := 0) rfl rfl) rfl hl.1 rfl (Nat.le_of_ble_eq_true rfl) dX8_mayMake_41 ⟨Nat.le_of_ble_eq_true rfl, Nat.le_of_ble_eq_true rfl⟩ (fun r_12 hr_12 => ?_)
          refine lv_iload_n hx hb dX8_mayMake_44 rfl (lv_at hl 4 rfl) ?_
          refine lv_icmp_ne (tgt := 52) hx hb dX8_mayMake_45 (by decide) (fun c_13 => ?_) (fun c_13 => ?_)
          · have fc_13 : r_12.toInt ≠ to.toInt := zf_ne c_13 rfl rfl
            refine lv_iconst (v := 0) hx hb dX8_mayMake_52 (by decide) ?_
            exact W.zret (v := 0) hx hb hr (by decide) (fun t ht hW => ⟨0, rfl, ⟨by decide, by decide⟩, ht⟩) (fun q hq => by cases hq) dX8_mayMake_53
          · have fc_13 : r_12.toInt = to.toInt := zf_eq c_13 rfl rfl
            refine lv_iconst (v := 1) hx hb dX8_mayMake_48 (by decide) ?_
            refine lv_goto (tgt := 53) hx hb dX8_mayMake_49 (by decide) ?_
            exact W.zret (v := 1) hx hb hr (by decide) (fun t ht hW => ⟨1, rfl, ⟨by decide, by decide⟩, ht⟩) (fun q hq => by cases hq) dX8_mayMake_53
  · have fc_1 : d.toInt = 0 := zf_eq c_1 rfl (by decide)
    refine lv_iconst (v := 0) hx hb dX8_mayMake_4 (by decide) ?_
    exact W.zret (v := 0) hx hb hr (by decide) (fun t ht hW => ⟨0, rfl, ⟨by decide, by decide⟩, ht⟩) (fun q hq => by cases hq) dX8_mayMake_5
theorem hi_X8_meant_8 : ∀ w ∈ u_ws RX8 TX8 38, w ∈ wsX8_meant := fun w h => (gl_X8_meant_X80 w h).1
set_option maxHeartbeats 4000000 in
set_option maxRecDepth 100000 in
theorem c_M_meant (l : Launch) (D : va_G) (cI cJ cZ cP cS : ClassId) (po : zPool) (m0 mrf mki mpa mta mla msl mco mhe mso msi msh mce mca mwo mnu mte mwa mke mma mth mtr : Nat) (npu nte nat_ nde nto nse nhu nga nsd nfa nba npl nen nnu nwr nra nik : Int32) (grf ghe gsi gki gpa : Nat → Int32) (gce : Nat → Int64) (s_ n i : Int32) (hy0 : 0 ≤ npu.toInt) (hy1 : npu.toInt ≤ 8) (hy2 : 4 ≤ nte.toInt) (hy3 : nte.toInt ≤ 40) (hy4 : 0 ≤ nat_.toInt) (hy5 : nat_.toInt ≤ 40) (hy6 : 0 ≤ nde.toInt) (hy7 : nde.toInt ≤ 24) (hy8 : 0 ≤ nhu.toInt) (hy9 : nhu.toInt ≤ 9) (hy10 : 0 ≤ nra.toInt) (hy11 : nra.toInt ≤ 2000) (hy12 : 0 ≤ nik.toInt) (hy13 : nik.toInt ≤ 1) (hp_ghe : zRg ghe (0) 2) (hp_gsi : zRg gsi (0) 160) (hp_gki : zRg gki (0) 6) (hp_gpa : zRg gpa (0) 9) (hpz : Nat) : Met l yX8_meant wsX8_meant ({ frames := 3, cells := 0, slots := 0, locals := 69 }) (va_Pc [.ref m0, .int s_, .int n, .int i] (zW D (zKT cI cJ cZ cP cS) po [(zMO m0 npu nte nat_ nde nto nse nhu nga nsd nfa mrf mki mpa mta mla msl mco mhe mso msi msh mce mca mwo mnu mte nba npl nen nnu nwr mwa mke mma mth mtr nra nik), (mrf, .inl (cI, 8, .inl grf)), (mhe, .inl (cI, 8, .inl ghe)), (msi, .inl (cI, 8, .inl gsi)), (mce, .inl (cJ, 1280, .inr (.inl gce))), (mki, .inl (cI, 8, .inl gki)), (mpa, .inl (cI, 8, .inl gpa))] hpz)) (va_Qi (fun (r : Int32) (grf2 : (Nat → Int32)) => True) (zB D [(zMO m0 npu nte nat_ nde nto nse nhu nga nsd nfa mrf mki mpa mta mla msl mco mhe mso msi msh mce mca mwo mnu mte nba npl nen nnu nwr mwa mke mma mth mtr nra nik), (mrf, .inl (cI, 8, .inl grf)), (mhe, .inl (cI, 8, .inl ghe)), (msi, .inl (cI, 8, .inl gsi)), (mce, .inl (cJ, 1280, .inr (.inl gce))), (mki, .inl (cI, 8, .inl gki)), (mpa, .inl (cI, 8, .inl gpa))] hpz (fun (grf2 : Nat → Int32) => [(zMO m0 npu nte nat_ nde nto nse nhu nga nsd nfa mrf mki mpa mta mla msl mco mhe mso msi msh mce mca mwo mnu mte nba npl nen nnu nwr mwa mke mma mth mtr nra nik), (mrf, .inl (cI, 8, .inl grf2)), (mhe, .inl (cI, 8, .inl ghe)), (msi, .inl (cI, 8, .inl gsi)), (mce, .inl (cJ, 1280, .inr (.inl gce))), (mki, .inl (cI, 8, .inl gki)), (mpa, .inl (cI, 8, .inl gpa))])) (va_A [(zMO m0 npu nte nat_ nde nto nse nhu nga nsd nfa mrf mki mpa mta mla msl mco mhe mso msi msh mce mca mwo mnu mte nba npl nen nnu nwr mwa mke mma mth mtr nra nik), (mrf, .inl (cI, 8, .inl grf)), (mhe, .inl (cI, 8, .inl ghe)), (msi, .inl (cI, 8, .inl gsi)), (mce, .inl (cJ, 1280, .inr (.inl gce))), (mki, .inl (cI, 8, .inl gki)), (mpa, .inl (cI, 8, .inl gpa))] hpz)) 0 0 (va_A [(zMO m0 npu nte nat_ nde nto nse nhu nga nsd nfa mrf mki mpa mta mla msl mco mhe mso msi msh mce mca mwo mnu mte nba npl nen nnu nwr mwa mke mma mth mtr nra nik), (mrf, .inl (cI, 8, .inl grf)), (mhe, .inl (cI, 8, .inl ghe)), (msi, .inl (cI, 8, .inl gsi)), (mce, .inl (cJ, 1280, .inr (.inl gce))), (mki, .inl (cI, 8, .inl gki)), (mpa, .inl (cI, 8, .inl gpa))] hpz) := by
  refine Met.ofW (cc := cX8_meant) (maxL := 12) (ret := (some .int)) (by decide) rfl ?_
  intro p e s m args below meth c s₁ B hml hv
  obtain ⟨rfl, hsz, hP, hK, hD0, hN, hZ⟩ := hv
  have hx := B.exec
  have hb := B.bytes
  have hr := B.returns
  have hts := atoms_spec (ws := wsX8_meant) B.pre
  have hown : s.vm.findClass RX8 = some m.cls := findClass_of_methodNamed B.named
  have hlocks := B.notSynchronized
  subst hsz
  have hD := hD0.self (sz := s.heap.size)
  have hA := zA_of hD
  have hl := lv_entry ([.ref m0, .int s_, .int n, .int i]) (n := 12) (Nat.le_of_ble_eq_true rfl)
  rw [lg_entry_eq]
  generalize (lg_sl ([.ref m0, .int s_, .int n, .int i]) ++ List.replicate (12 - (lg_sl ([.ref m0, .int s_, .int n, .int i])).length) Slot.unset).toArray = ls at hl ⊢
  replace hl : lv_has ls 12 [(0, .ref m0), (1, .int s_), (2, .int n), (3, .int i)] := hl
  refine zw_begin hP hD (fun H locs hP1 hS => ?_)
  clear hP
  have hP := hP1
  clear hP1
  refine zcut (T := fun K => ∀ (H : Heap) (locs : List Loc) (ls : Array Slot) (hP : va_P D vwCl [(zMO m0 npu nte nat_ nde nto nse nhu nga nsd nfa mrf mki mpa mta mla msl mco mhe mso msi msh mce mca mwo mnu mte nba npl nen nnu nwr mwa mke mma mth mtr nra nik), (mrf, .inl (cI, 8, .inl grf)), (mhe, .inl (cI, 8, .inl ghe)), (msi, .inl (cI, 8, .inl gsi)), (mce, .inl (cJ, 1280, .inr (.inl gce))), (mki, .inl (cI, 8, .inl gki)), (mpa, .inl (cI, 8, .inl gpa))] H) (hD : va_D (va_A [(zMO m0 npu nte nat_ nde nto nse nhu nga nsd nfa mrf mki mpa mta mla msl mco mhe mso msi msh mce mca mwo mnu mte nba npl nen nnu nwr mwa mke mma mth mtr nra nik), (mrf, .inl (cI, 8, .inl grf)), (mhe, .inl (cI, 8, .inl ghe)), (msi, .inl (cI, 8, .inl gsi)), (mce, .inl (cJ, 1280, .inr (.inl gce))), (mki, .inl (cI, 8, .inl gki)), (mpa, .inl (cI, 8, .inl gpa))] s.heap.size) [(zMO m0 npu nte nat_ nde nto nse nhu nga nsd nfa mrf mki mpa mta mla msl mco mhe mso msi msh mce mca mwo mnu mte nba npl nen nnu nwr mwa mke mma mth mtr nra nik), (mrf, .inl (cI, 8, .inl grf)), (mhe, .inl (cI, 8, .inl ghe)), (msi, .inl (cI, 8, .inl gsi)), (mce, .inl (cJ, 1280, .inr (.inl gce))), (mki, .inl (cI, 8, .inl gki)), (mpa, .inl (cI, 8, .inl gpa))]) (hS : va_S (va_A [(zMO m0 npu nte nat_ nde nto nse nhu nga nsd nfa mrf mki mpa mta mla msl mco mhe mso msi msh mce mca mwo mnu mte nba npl nen nnu nwr mwa mke mma mth mtr nra nik), (mrf, .inl (cI, 8, .inl grf)), (mhe, .inl (cI, 8, .inl ghe)), (msi, .inl (cI, 8, .inl gsi)), (mce, .inl (cJ, 1280, .inr (.inl gce))), (mki, .inl (cI, 8, .inl gki)), (mpa, .inl (cI, 8, .inl gpa))] s.heap.size) s.heap H locs) (hl : lv_has ls 12 [(0, .ref m0), (1, .int s_), (2, .int n), (3, .int i)]) (hf132_0 : (0 ≤ s_.toInt ∧ s_.toInt ≤ 7) ∧ 1 ≤ n.toInt ∧ n.toInt ≤ 20), K H locs ls) (pc := 132) ?_ (fun hcut132 => ?_)
  · intro H locs ls hP hD hS hl hf132_0
    refine lv_iconst (v := 1) hx hb dX8_meant_132 (by decide) ?_
    refine lv_istore (lv' := [(5, .int 1), (0, .ref m0), (1, .int s_), (2, .int n), (3, .int i)]) hx hb dX8_meant_133 hl (by decide) rfl (fun ls hl => ?_)
    refine lv_aload_n hx hb dX8_meant_135 rfl (lv_at hl 1 rfl) ?_
    refine va_get (D := D) (ci := 8) (v := .int nde) (C := RX8) (T := TX8) (N := 38) hx hb hts hi_X8_meant_8 hown hK hP 0 rfl rfl 3 (by decide) (hts (.fieldLink RX8 115 "TheLiningsInItModel" "depth" "I") (List.mem_of_getElem? (i := 2) rfl)) (fun _ h9 => h9) rfl dX8_meant_136 ?_
    refine lv_istore (lv' := [(6, .int nde), (5, .int 1), (0, .ref m0), (1, .int s_), (2, .int n), (3, .int i)]) hx hb dX8_meant_139 hl (by decide) rfl (fun ls hl => ?_)
    refine lv_iconst (v := (-1)) hx hb dX8_meant_141 (by decide) ?_
    refine lv_istore (lv' := [(7, .int (-1)), (6, .int nde), (5, .int 1), (0, .ref m0), (1, .int s_), (2, .int n), (3, .int i)]) hx hb dX8_meant_142 hl (by decide) rfl (fun ls hl => ?_)
    refine lv_iconst (v := 0) hx hb dX8_meant_144 (by decide) ?_
    refine lv_istore (lv' := [(8, .int 0), (7, .int (-1)), (6, .int nde), (5, .int 1), (0, .ref m0), (1, .int s_), (2, .int n), (3, .int i)]) hx hb dX8_meant_145 hl (by decide) rfl (fun ls hl => ?_)
    obtain ⟨i_147, hi_147⟩ : ∃ i : Int32, i = 0 := ⟨_, rfl⟩
    replace hl : lv_has ls 12 [(8, .int i_147), (7, .int (-1)), (6, .int nde), (5, .int 1), (0, .ref m0), (1, .int s_), (2, .int n), (3, .int i)] := by rw [hi_147]; exact lv_sub hl [0, 1, 2, 3, 4, 5, 6, 7] rfl
    have h1i_147 : i_147.toInt = 0 := by rw [hi_147]; decide
    obtain ⟨nfu, hni_147⟩ : ∃ nq9 : Nat, n.toInt ≤ i_147.toInt + (nq9 : Int) := ⟨((n.toInt : Int) - 0).toNat, by omega⟩
    have hloi_147 : 0 ≤ i_147.toInt := by omega
    obtain ⟨v_1, hv_1⟩ : ∃ g : Int32, g = 1 := ⟨_, rfl⟩
    obtain ⟨v_2, hv_2⟩ : ∃ g : Int32, g = nde := ⟨_, rfl⟩
    obtain ⟨v_3, hv_3⟩ : ∃ g : Int32, g = (-1) := ⟨_, rfl⟩
    replace hl : lv_has ls 12 [(8, .int i_147), (7, .int v_3), (6, .int v_2), (5, .int v_1), (0, .ref m0), (1, .int s_), (2, .int n), (3, .int i)] := by rw [hv_1, hv_2, hv_3]; exact hl
    clear h1i_147 hi_147 hv_1 hv_2 hv_3
    skip
    revert hni_147
    revert hloi_147
    revert hl
    revert hS
    revert hD
    revert hP
    revert ls
    revert locs
    revert H
    revert v_3
    revert v_2
    revert v_1
    revert i_147
    induction nfu with
    | zero =>
      intro i_147 v_1 v_2 v_3 H locs ls hP hD hS hl hloi_147 hni_147
      have hzi_147 : n.toInt ≤ i_147.toInt := by omega
      refine lv_iload hx hb dX8_meant_147 (lv_at hl 0 rfl) ?_
      refine lv_iload_n hx hb dX8_meant_149 rfl (lv_at hl 6 rfl) ?_
      refine lv_icmp_ge (tgt := 252) hx hb dX8_meant_150 (by decide) (fun c_4 => ?_) (fun c_4 => ?_)
      · have fc_4 : n.toInt ≤ i_147.toInt := zf_le c_4 rfl rfl
        refine lv_iload_n hx hb dX8_meant_252 rfl (lv_at hl 7 rfl) ?_
        refine lv_iconst (v := (-1)) hx hb dX8_meant_253 (by decide) ?_
        refine lv_icmp_ne (tgt := 260) hx hb dX8_meant_254 (by decide) (fun c_5 => ?_) (fun c_5 => ?_)
        · have fc_5 : i.toInt ≠ (-1) := zf_ne c_5 rfl (by decide)
          refine lv_iload hx hb dX8_meant_260 (lv_at hl 3 rfl) ?_
          refine lv_if_ne (tgt := 274) hx hb dX8_meant_262 (by decide) (fun c_6 => ?_) (fun c_6 => ?_)
          · have fc_6 : v_1.toInt ≠ 0 := zf_ne c_6 rfl (by decide)
            refine lv_iload hx hb dX8_meant_274 (lv_at hl 1 rfl) ?_
            exact W.iret (v := v_3) hx hb hr (fun t ht hW => ⟨⟨v_3, grf, rfl, trivial, zRet ht hP hD [0, 1, 2, 3, 4, 5, 6] (by decide) rfl⟩, hS.F ht⟩) hS.2.2 dX8_meant_276
          · have fc_6 : v_1.toInt = 0 := zf_eq c_6 rfl (by decide)
            refine lv_aload_n hx hb dX8_meant_265 rfl (lv_at hl 4 rfl) ?_
            refine lv_bipush (v := (-5)) hx hb dX8_meant_266 (by decide) ?_
            skip
            refine zw_V (As := [.int (-5)]) (rest := []) (wr := [(mhe, .inl (cI, 8, .inl ghe)), (msi, .inl (cI, 8, .inl gsi)), (mce, .inl (cJ, 1280, .inr (.inl gce))), (mki, .inl (cI, 8, .inl gki)), (mpa, .inl (cI, 8, .inl gpa))]) ⟨hx, hb, hml, hown, hts⟩ (c_M_no_5 l D cI cJ cZ cP cS po m0 mrf mki mpa mta mla msl mco mhe mso msi msh mce mca mwo mnu mte mwa mke mma mth mtr (npu) (nte) (nat_) (nde) (nto) (nse) (nhu) (nga) (nsd) (nfa) (nba) (npl) (nen) (nnu) (nwr) (nra) (nik) grf hy0 hy1 hy2 hy3 hy4 hy5 hy6 hy7 hy8 hy9 hy10 hy11 hy12 hy13 H.size) (cwV 1 hts gX8_meant_X8_no rfl rfl rfl ⟨rfl, dh_X8_no⟩ ⟨Nat.le_of_ble_eq_true rfl, Nat.le_of_ble_eq_true rfl⟩) hK hN (hZ.kept hS) hP hD hS hA [0, 1] [2, 3, 4, 5, 6] rfl rfl (by decide) (by decide) (by decide) (va_recv (q := (RX8, TX8, 38)) hK hP (ci := 8) (q0 := 0) rfl rfl) rfl hl.1 rfl (Nat.le_of_ble_eq_true rfl) dX8_meant_268 ⟨Nat.le_of_ble_eq_true rfl, Nat.le_of_ble_eq_true rfl⟩ (fun r_7 u_8 H locs hr_7 hP hD hS => ?_)
            obtain ⟨q_9, rfl⟩ : ∃ z, z = u_8 := ⟨_, rfl⟩
            have h9R := zRe (ws' := [(mhe, .inl (cI, 8, .inl ghe)), (msi, .inl (cI, 8, .inl gsi)), (mce, .inl (cJ, 1280, .inr (.inl gce))), (mki, .inl (cI, 8, .inl gki)), (mpa, .inl (cI, 8, .inl gpa)), (zMO m0 npu nte nat_ nde nto nse nhu nga nsd nfa mrf mki mpa mta mla msl mco mhe mso msi msh mce mca mwo mnu mte nba npl nen nnu nwr mwa mke mma mth mtr nra nik), (mrf, .inl (cI, 8, .inl q_9))]) hP hD rfl
            clear hP hD
            obtain ⟨hP, hD⟩ := h9R
            obtain rfl := hr_7
            refine lv_goto (tgt := 276) hx hb dX8_meant_271 (by decide) ?_
            exact W.iret (v := (-5)) hx hb hr (fun t ht hW => ⟨⟨(-5), q_9, rfl, trivial, zRet ht hP hD [5, 6, 0, 1, 2, 3, 4] (by decide) rfl⟩, hS.F ht⟩) hS.2.2 dX8_meant_276
        · have fc_5 : i.toInt = (-1) := zf_eq c_5 rfl (by decide)
          refine lv_iload hx hb dX8_meant_257 (lv_at hl 3 rfl) ?_
          exact W.iret (v := v_1) hx hb hr (fun t ht hW => ⟨⟨v_1, grf, rfl, trivial, zRet ht hP hD [0, 1, 2, 3, 4, 5, 6] (by decide) rfl⟩, hS.F ht⟩) hS.2.2 dX8_meant_259
      · exfalso; have fc_4 : i_147.toInt < n.toInt := zf_nle c_4 rfl rfl; omega
    | succ nfu ih =>
      intro i_147 v_1 v_2 v_3 H locs ls hP hD hS hl hloi_147 hni_147
      refine lv_iload hx hb dX8_meant_147 (lv_at hl 0 rfl) ?_
      refine lv_iload_n hx hb dX8_meant_149 rfl (lv_at hl 6 rfl) ?_
      refine lv_icmp_ge (tgt := 252) hx hb dX8_meant_150 (by decide) (fun c_10 => ?_) (fun c_10 => ?_)
      · have fc_10 : n.toInt ≤ i_147.toInt := zf_le c_10 rfl rfl
        refine lv_iload_n hx hb dX8_meant_252 rfl (lv_at hl 7 rfl) ?_
        refine lv_iconst (v := (-1)) hx hb dX8_meant_253 (by decide) ?_
        refine lv_icmp_ne (tgt := 260) hx hb dX8_meant_254 (by decide) (fun c_11 => ?_) (fun c_11 => ?_)
        · have fc_11 : i.toInt ≠ (-1) := zf_ne c_11 rfl (by decide)
          refine lv_iload hx hb dX8_meant_260 (lv_at hl 3 rfl) ?_
          refine lv_if_ne (tgt := 274) hx hb dX8_meant_262 (by decide) (fun c_12 => ?_) (fun c_12 => ?_)
          · have fc_12 : v_1.toInt ≠ 0 := zf_ne c_12 rfl (by decide)
            refine lv_iload hx hb dX8_meant_274 (lv_at hl 1 rfl) ?_
            exact W.iret (v := v_3) hx hb hr (fun t ht hW => ⟨⟨v_3, grf, rfl, trivial, zRet ht hP hD [0, 1, 2, 3, 4, 5, 6] (by decide) rfl⟩, hS.F ht⟩) hS.2.2 dX8_meant_276
          · have fc_12 : v_1.toInt = 0 := zf_eq c_12 rfl (by decide)
            refine lv_aload_n hx hb dX8_meant_265 rfl (lv_at hl 4 rfl) ?_
            refine lv_bipush (v := (-5)) hx hb dX8_meant_266 (by decide) ?_
            skip
            refine zw_V (As := [.int (-5)]) (rest := []) (wr := [(mhe, .inl (cI, 8, .inl ghe)), (msi, .inl (cI, 8, .inl gsi)), (mce, .inl (cJ, 1280, .inr (.inl gce))), (mki, .inl (cI, 8, .inl gki)), (mpa, .inl (cI, 8, .inl gpa))]) ⟨hx, hb, hml, hown, hts⟩ (c_M_no_5 l D cI cJ cZ cP cS po m0 mrf mki mpa mta mla msl mco mhe mso msi msh mce mca mwo mnu mte mwa mke mma mth mtr (npu) (nte) (nat_) (nde) (nto) (nse) (nhu) (nga) (nsd) (nfa) (nba) (npl) (nen) (nnu) (nwr) (nra) (nik) grf hy0 hy1 hy2 hy3 hy4 hy5 hy6 hy7 hy8 hy9 hy10 hy11 hy12 hy13 H.size) (cwV 1 hts gX8_meant_X8_no rfl rfl rfl ⟨rfl, dh_X8_no⟩ ⟨Nat.le_of_ble_eq_true rfl, Nat.le_of_ble_eq_true rfl⟩) hK hN (hZ.kept hS) hP hD hS hA [0, 1] [2, 3, 4, 5, 6] rfl rfl (by decide) (by decide) (by decide) (va_recv (q := (RX8, TX8, 38)) hK hP (ci := 8) (q0 := 0) rfl rfl) rfl hl.1 rfl (Nat.le_of_ble_eq_true rfl) dX8_meant_268 ⟨Nat.le_of_ble_eq_true rfl, Nat.le_of_ble_eq_true rfl⟩ (fun r_13 u_14 H locs hr_13 hP hD hS => ?_)
            obtain ⟨q_15, rfl⟩ : ∃ z, z = u_14 := ⟨_, rfl⟩
            have h9R := zRe (ws' := [(mhe, .inl (cI, 8, .inl ghe)), (msi, .inl (cI, 8, .inl gsi)), (mce, .inl (cJ, 1280, .inr (.inl gce))), (mki, .inl (cI, 8, .inl gki)), (mpa, .inl (cI, 8, .inl gpa)), (zMO m0 npu nte nat_ nde nto nse nhu nga nsd nfa mrf mki mpa mta mla msl mco mhe mso msi msh mce mca mwo mnu mte nba npl nen nnu nwr mwa mke mma mth mtr nra nik), (mrf, .inl (cI, 8, .inl q_15))]) hP hD rfl
            clear hP hD
            obtain ⟨hP, hD⟩ := h9R
            obtain rfl := hr_13
            refine lv_goto (tgt := 276) hx hb dX8_meant_271 (by decide) ?_
            exact W.iret (v := (-5)) hx hb hr (fun t ht hW => ⟨⟨(-5), q_15, rfl, trivial, zRet ht hP hD [5, 6, 0, 1, 2, 3, 4] (by decide) rfl⟩, hS.F ht⟩) hS.2.2 dX8_meant_276
        · have fc_11 : i.toInt = (-1) := zf_eq c_11 rfl (by decide)
          refine lv_iload hx hb dX8_meant_257 (lv_at hl 3 rfl) ?_
          exact W.iret (v := v_1) hx hb hr (fun t ht hW => ⟨⟨v_1, grf, rfl, trivial, zRet ht hP hD [0, 1, 2, 3, 4, 5, 6] (by decide) rfl⟩, hS.F ht⟩) hS.2.2 dX8_meant_259
      · have fc_10 : i_147.toInt < n.toInt := zf_nle c_10 rfl rfl
        refine lv_aload_n hx hb dX8_meant_153 rfl (lv_at hl 4 rfl) ?_
        refine lv_iload_n hx hb dX8_meant_154 rfl (lv_at hl 5 rfl) ?_
        refine lv_iload hx hb dX8_meant_155 (lv_at hl 0 rfl) ?_
        refine zc_V (As := [.int s_, .int i_147]) (rest := []) ⟨hx, hb, hml, hown, hts⟩ (c_M_intAt l D cI cJ cZ cP cS po m0 mrf mki mpa mta mla msl mco mhe mso msi msh mce mca mwo mnu mte mwa mke mma mth mtr (npu) (nte) (nat_) (nde) (nto) (nse) (nhu) (nga) (nsd) (nfa) (nba) (npl) (nen) (nnu) (nwr) (nra) (nik) gce (s_) (i_147) hy0 hy1 hy2 hy3 hy4 hy5 hy6 hy7 hy8 hy9 hy10 hy11 hy12 hy13 (by omega) (by omega) (by omega) (by omega)) (cwV 2 hts gX8_meant_X8_intAt rfl rfl rfl ⟨rfl, dh_X8_intAt⟩ ⟨Nat.le_of_ble_eq_true rfl, Nat.le_of_ble_eq_true rfl⟩) hK hN (hZ.kept hS) hP (hP.sub [0, 4] rfl) (va_recv (q := (RX8, TX8, 38)) hK hP (ci := 8) (q0 := 0) rfl rfl) rfl hl.1 rfl (Nat.le_of_ble_eq_true rfl) dX8_meant_157 ⟨Nat.le_of_ble_eq_true rfl, Nat.le_of_ble_eq_true rfl⟩ (fun r_16 hr_16 => ?_)
        refine lv_istore (lv' := [(9, .int r_16), (8, .int i_147), (7, .int v_3), (6, .int v_2), (5, .int v_1), (0, .ref m0), (1, .int s_), (2, .int n), (3, .int i)]) hx hb dX8_meant_160 hl (by decide) rfl (fun ls hl => ?_)
        refine lv_iconst (v := 0) hx hb dX8_meant_162 (by decide) ?_
        refine lv_istore (lv' := [(10, .int 0), (9, .int r_16), (8, .int i_147), (7, .int v_3), (6, .int v_2), (5, .int v_1), (0, .ref m0), (1, .int s_), (2, .int n), (3, .int i)]) hx hb dX8_meant_163 hl (by decide) rfl (fun ls hl => ?_)
        refine lv_aload_n hx hb dX8_meant_165 rfl (lv_at hl 6 rfl) ?_
        refine va_get (D := D) (ci := 8) (v := .int npu) (C := RX8) (T := TX8) (N := 38) hx hb hts hi_X8_meant_8 hown hK hP 0 rfl rfl 0 (by decide) (hts (.fieldLink RX8 90 "TheLiningsInItModel" "pulls" "I") (List.mem_of_getElem? (i := 3) rfl)) (fun _ h9 => h9) rfl dX8_meant_166 ?_
        refine lv_iconst (v := 1) hx hb dX8_meant_169 (by decide) ?_
        refine lv_isub hx hb dX8_meant_170 ?_
        refine lv_topi (fun x_17 ex_17 => ?_)
        have qx_17 : x_17.toInt = npu.toInt - 1 := by rw [ex_17]; exact zf_sub rfl (by decide) (by omega) (by omega)
        refine lv_istore (lv' := [(11, .int x_17), (10, .int 0), (9, .int r_16), (8, .int i_147), (7, .int v_3), (6, .int v_2), (5, .int v_1), (0, .ref m0), (1, .int s_), (2, .int n), (3, .int i)]) hx hb dX8_meant_171 hl (by decide) rfl (fun ls hl => ?_)
        obtain ⟨i_173, hi_173⟩ : ∃ i : Int32, i = x_17 := ⟨_, rfl⟩
        replace hl : lv_has ls 12 [(11, .int i_173), (10, .int 0), (9, .int r_16), (8, .int i_147), (7, .int v_3), (6, .int v_2), (5, .int v_1), (0, .ref m0), (1, .int s_), (2, .int n), (3, .int i)] := by rw [hi_173]; exact lv_sub hl [0, 1, 2, 3, 4, 5, 6, 7, 8, 9, 10] rfl
        have h1i_173 : i_173.toInt = x_17.toInt := by rw [hi_173]
        obtain ⟨nfu_173, hni_173⟩ : ∃ nq9 : Nat, i_173.toInt + 1 ≤ (nq9 : Int) := ⟨(x_17.toInt + 1).toNat, by omega⟩
        have hloi_173 : i_173.toInt ≤ 7 := by omega
        obtain ⟨v_18, hv_18⟩ : ∃ g : Int32, g = v_3 := ⟨_, rfl⟩
        obtain ⟨v_19, hv_19⟩ : ∃ g : Int32, g = 0 := ⟨_, rfl⟩
        replace hl : lv_has ls 12 [(11, .int i_173), (10, .int v_19), (9, .int r_16), (8, .int i_147), (7, .int v_18), (6, .int v_2), (5, .int v_1), (0, .ref m0), (1, .int s_), (2, .int n), (3, .int i)] := by rw [hv_18, hv_19]; exact hl
        clear h1i_173 hi_173 hv_18 hv_19
        skip
        revert hni_173
        revert hloi_173
        revert hl
        revert hS
        revert hD
        revert hP
        revert ls
        revert locs
        revert H
        revert v_19
        revert v_18
        revert i_173
        induction nfu_173 with
        | zero =>
          intro i_173 v_18 v_19 H locs ls hP hD hS hl hloi_173 hni_173
          have hzi_173 : i_173.toInt ≤ -1 := by omega
          refine lv_iload hx hb dX8_meant_173 (lv_at hl 0 rfl) ?_
          refine lv_if_lt (tgt := 218) hx hb dX8_meant_175 (by decide) (fun c_20 => ?_) (fun c_20 => ?_)
          · have fc_20 : i_173.toInt < 0 := zf_lt c_20 rfl (by decide)
            refine lv_iload hx hb dX8_meant_218 (lv_at hl 6 rfl) ?_
            refine lv_iload hx hb dX8_meant_220 (lv_at hl 1 rfl) ?_
            refine lv_imul hx hb dX8_meant_222 ?_
            refine lv_topi (fun x_21 ex_21 => ?_)
            refine lv_ldcw (own := RX8) (v := 1000000) hx hb hown (hts _ (List.mem_of_getElem? (i := 4) rfl)) dX8_meant_223 ?_
            refine lv_icmp_le (tgt := 235) hx hb dX8_meant_226 (by decide) (fun c_22 => ?_) (fun c_22 => ?_)
            · have fc_22 : x_21.toInt ≤ 1000000 := zf_le c_22 rfl (by decide)
              refine lv_iload hx hb dX8_meant_235 (lv_at hl 6 rfl) ?_
              refine lv_iload hx hb dX8_meant_237 (lv_at hl 1 rfl) ?_
              refine lv_imul hx hb dX8_meant_239 ?_
              refine lv_topi (fun y_23 ey_23 => ?_)
              obtain rfl : x_21 = y_23 := ex_21.trans ey_23.symm
              refine lv_istore (lv' := [(5, .int x_21), (11, .int i_173), (10, .int v_19), (9, .int r_16), (8, .int i_147), (7, .int v_18), (6, .int v_2), (0, .ref m0), (1, .int s_), (2, .int n), (3, .int i)]) hx hb dX8_meant_240 hl (by decide) rfl (fun ls hl => ?_)
              refine lv_iload hx hb dX8_meant_242 (lv_at hl 3 rfl) ?_
              refine lv_istore (lv' := [(6, .int r_16), (5, .int x_21), (11, .int i_173), (10, .int v_19), (9, .int r_16), (8, .int i_147), (7, .int v_18), (0, .ref m0), (1, .int s_), (2, .int n), (3, .int i)]) hx hb dX8_meant_244 hl (by decide) rfl (fun ls hl => ?_)
              obtain ⟨x_24, ex_24⟩ : ∃ y : Int32, y = i_147 + 1 := ⟨_, rfl⟩
              have qx_24 : x_24.toInt = i_147.toInt + 1 := dw_inc ex_24 fc_10
              refine lv_iinc (v := x_24) (lv' := [(8, .int x_24), (6, .int r_16), (5, .int x_21), (11, .int i_173), (10, .int v_19), (9, .int r_16), (7, .int v_18), (0, .ref m0), (1, .int s_), (2, .int n), (3, .int i)]) hx hb dX8_meant_246 hl (k := 5) rfl ex_24.symm (by decide) rfl (fun ls hl => ?_)
              refine lv_goto (tgt := 147) hx hb dX8_meant_249 (by decide) ?_
              exact ih x_24 x_21 r_16 v_18 _ _ _ (hP.sub [0, 1, 2, 3, 4, 5, 6] rfl) (hD.sub [0, 1, 2, 3, 4, 5, 6] (by decide) rfl) hS (lv_sub hl [0, 6, 1, 2, 7, 8, 9, 10] rfl) (dw_lo hloi_147 qx_24) (dw_hn hni_147 qx_24)
            · have fc_22 : 1000000 < x_21.toInt := zf_nle c_22 rfl (by decide)
              refine lv_ldcw (own := RX8) (v := 1000000) hx hb hown (hts _ (List.mem_of_getElem? (i := 4) rfl)) dX8_meant_229 ?_
              refine lv_goto (tgt := 240) hx hb dX8_meant_232 (by decide) ?_
              refine lv_istore (lv' := [(5, .int 1000000), (11, .int i_173), (10, .int v_19), (9, .int r_16), (8, .int i_147), (7, .int v_18), (6, .int v_2), (0, .ref m0), (1, .int s_), (2, .int n), (3, .int i)]) hx hb dX8_meant_240 hl (by decide) rfl (fun ls hl => ?_)
              refine lv_iload hx hb dX8_meant_242 (lv_at hl 3 rfl) ?_
              refine lv_istore (lv' := [(6, .int r_16), (5, .int 1000000), (11, .int i_173), (10, .int v_19), (9, .int r_16), (8, .int i_147), (7, .int v_18), (0, .ref m0), (1, .int s_), (2, .int n), (3, .int i)]) hx hb dX8_meant_244 hl (by decide) rfl (fun ls hl => ?_)
              obtain ⟨x_25, ex_25⟩ : ∃ y : Int32, y = i_147 + 1 := ⟨_, rfl⟩
              have qx_25 : x_25.toInt = i_147.toInt + 1 := dw_inc ex_25 fc_10
              refine lv_iinc (v := x_25) (lv' := [(8, .int x_25), (6, .int r_16), (5, .int 1000000), (11, .int i_173), (10, .int v_19), (9, .int r_16), (7, .int v_18), (0, .ref m0), (1, .int s_), (2, .int n), (3, .int i)]) hx hb dX8_meant_246 hl (k := 5) rfl ex_25.symm (by decide) rfl (fun ls hl => ?_)
              refine lv_goto (tgt := 147) hx hb dX8_meant_249 (by decide) ?_
              exact ih x_25 1000000 r_16 v_18 _ _ _ (hP.sub [0, 1, 2, 3, 4, 5, 6] rfl) (hD.sub [0, 1, 2, 3, 4, 5, 6] (by decide) rfl) hS (lv_sub hl [0, 6, 1, 2, 7, 8, 9, 10] rfl) (dw_lo hloi_147 qx_25) (dw_hn hni_147 qx_25)
          · exfalso; have fc_20 : 0 ≤ i_173.toInt := zf_nlt c_20 rfl (by decide); omega
        | succ nfu_173 ih_173 =>
          intro i_173 v_18 v_19 H locs ls hP hD hS hl hloi_173 hni_173
          refine lv_iload hx hb dX8_meant_173 (lv_at hl 0 rfl) ?_
          refine lv_if_lt (tgt := 218) hx hb dX8_meant_175 (by decide) (fun c_26 => ?_) (fun c_26 => ?_)
          · have fc_26 : i_173.toInt < 0 := zf_lt c_26 rfl (by decide)
            refine lv_iload hx hb dX8_meant_218 (lv_at hl 6 rfl) ?_
            refine lv_iload hx hb dX8_meant_220 (lv_at hl 1 rfl) ?_
            refine lv_imul hx hb dX8_meant_222 ?_
            refine lv_topi (fun x_27 ex_27 => ?_)
            refine lv_ldcw (own := RX8) (v := 1000000) hx hb hown (hts _ (List.mem_of_getElem? (i := 4) rfl)) dX8_meant_223 ?_
            refine lv_icmp_le (tgt := 235) hx hb dX8_meant_226 (by decide) (fun c_28 => ?_) (fun c_28 => ?_)
            · have fc_28 : x_27.toInt ≤ 1000000 := zf_le c_28 rfl (by decide)
              refine lv_iload hx hb dX8_meant_235 (lv_at hl 6 rfl) ?_
              refine lv_iload hx hb dX8_meant_237 (lv_at hl 1 rfl) ?_
              refine lv_imul hx hb dX8_meant_239 ?_
              refine lv_topi (fun y_29 ey_29 => ?_)
              obtain rfl : x_27 = y_29 := ex_27.trans ey_29.symm
              refine lv_istore (lv' := [(5, .int x_27), (11, .int i_173), (10, .int v_19), (9, .int r_16), (8, .int i_147), (7, .int v_18), (6, .int v_2), (0, .ref m0), (1, .int s_), (2, .int n), (3, .int i)]) hx hb dX8_meant_240 hl (by decide) rfl (fun ls hl => ?_)
              refine lv_iload hx hb dX8_meant_242 (lv_at hl 3 rfl) ?_
              refine lv_istore (lv' := [(6, .int r_16), (5, .int x_27), (11, .int i_173), (10, .int v_19), (9, .int r_16), (8, .int i_147), (7, .int v_18), (0, .ref m0), (1, .int s_), (2, .int n), (3, .int i)]) hx hb dX8_meant_244 hl (by decide) rfl (fun ls hl => ?_)
              obtain ⟨x_30, ex_30⟩ : ∃ y : Int32, y = i_147 + 1 := ⟨_, rfl⟩
              have qx_30 : x_30.toInt = i_147.toInt + 1 := dw_inc ex_30 fc_10
              refine lv_iinc (v := x_30) (lv' := [(8, .int x_30), (6, .int r_16), (5, .int x_27), (11, .int i_173), (10, .int v_19), (9, .int r_16), (7, .int v_18), (0, .ref m0), (1, .int s_), (2, .int n), (3, .int i)]) hx hb dX8_meant_246 hl (k := 5) rfl ex_30.symm (by decide) rfl (fun ls hl => ?_)
              refine lv_goto (tgt := 147) hx hb dX8_meant_249 (by decide) ?_
              exact ih x_30 x_27 r_16 v_18 _ _ _ (hP.sub [0, 1, 2, 3, 4, 5, 6] rfl) (hD.sub [0, 1, 2, 3, 4, 5, 6] (by decide) rfl) hS (lv_sub hl [0, 6, 1, 2, 7, 8, 9, 10] rfl) (dw_lo hloi_147 qx_30) (dw_hn hni_147 qx_30)
            · have fc_28 : 1000000 < x_27.toInt := zf_nle c_28 rfl (by decide)
              refine lv_ldcw (own := RX8) (v := 1000000) hx hb hown (hts _ (List.mem_of_getElem? (i := 4) rfl)) dX8_meant_229 ?_
              refine lv_goto (tgt := 240) hx hb dX8_meant_232 (by decide) ?_
              refine lv_istore (lv' := [(5, .int 1000000), (11, .int i_173), (10, .int v_19), (9, .int r_16), (8, .int i_147), (7, .int v_18), (6, .int v_2), (0, .ref m0), (1, .int s_), (2, .int n), (3, .int i)]) hx hb dX8_meant_240 hl (by decide) rfl (fun ls hl => ?_)
              refine lv_iload hx hb dX8_meant_242 (lv_at hl 3 rfl) ?_
              refine lv_istore (lv' := [(6, .int r_16), (5, .int 1000000), (11, .int i_173), (10, .int v_19), (9, .int r_16), (8, .int i_147), (7, .int v_18), (0, .ref m0), (1, .int s_), (2, .int n), (3, .int i)]) hx hb dX8_meant_244 hl (by decide) rfl (fun ls hl => ?_)
              obtain ⟨x_31, ex_31⟩ : ∃ y : Int32, y = i_147 + 1 := ⟨_, rfl⟩
              have qx_31 : x_31.toInt = i_147.toInt + 1 := dw_inc ex_31 fc_10
              refine lv_iinc (v := x_31) (lv' := [(8, .int x_31), (6, .int r_16), (5, .int 1000000), (11, .int i_173), (10, .int v_19), (9, .int r_16), (7, .int v_18), (0, .ref m0), (1, .int s_), (2, .int n), (3, .int i)]) hx hb dX8_meant_246 hl (k := 5) rfl ex_31.symm (by decide) rfl (fun ls hl => ?_)
              refine lv_goto (tgt := 147) hx hb dX8_meant_249 (by decide) ?_
              exact ih x_31 1000000 r_16 v_18 _ _ _ (hP.sub [0, 1, 2, 3, 4, 5, 6] rfl) (hD.sub [0, 1, 2, 3, 4, 5, 6] (by decide) rfl) hS (lv_sub hl [0, 6, 1, 2, 7, 8, 9, 10] rfl) (dw_lo hloi_147 qx_31) (dw_hn hni_147 qx_31)
          · have fc_26 : 0 ≤ i_173.toInt := zf_nlt c_26 rfl (by decide)
            refine lv_aload_n hx hb dX8_meant_178 rfl (lv_at hl 7 rfl) ?_
            refine lv_iload hx hb dX8_meant_179 (lv_at hl 0 rfl) ?_
            refine lv_iload hx hb dX8_meant_181 (lv_at hl 5 rfl) ?_
            refine lv_iload hx hb dX8_meant_183 (lv_at hl 2 rfl) ?_
            refine zc_V (As := [.int i_173, .int v_2, .int r_16]) (rest := []) ⟨hx, hb, hml, hown, hts⟩ (c_M_mayMake l D cI cJ cZ cP cS po m0 mrf mki mpa mta mla msl mco mhe mso msi msh mce mca mwo mnu mte mwa mke mma mth mtr (npu) (nte) (nat_) (nde) (nto) (nse) (nhu) (nga) (nsd) (nfa) (nba) (npl) (nen) (nnu) (nwr) (nra) (nik) gki gpa (i_173) (v_2) (r_16) hy0 hy1 hy2 hy3 hy4 hy5 hy6 hy7 hy8 hy9 hy10 hy11 hy12 hy13 (by omega) (by omega) hp_gki hp_gpa) (cwV 3 hts gX8_meant_X8_mayMake rfl rfl rfl ⟨rfl, dh_X8_mayMake⟩ ⟨Nat.le_of_ble_eq_true rfl, Nat.le_of_ble_eq_true rfl⟩) hK hN (hZ.kept hS) hP (hP.sub [0, 5, 6] rfl) (va_recv (q := (RX8, TX8, 38)) hK hP (ci := 8) (q0 := 0) rfl rfl) rfl hl.1 rfl (Nat.le_of_ble_eq_true rfl) dX8_meant_185 ⟨Nat.le_of_ble_eq_true rfl, Nat.le_of_ble_eq_true rfl⟩ (fun r_32 hr_32 => ?_)
            obtain ⟨g_33, g_34⟩ := hr_32
            refine lv_if_ne (tgt := 194) hx hb dX8_meant_188 (by decide) (fun c_35 => ?_) (fun c_35 => ?_)
            · have fc_35 : r_32.toInt ≠ 0 := zf_ne c_35 rfl (by decide)
              obtain ⟨x_36, ex_36⟩ : ∃ y : Int32, y = v_19 + 1 := ⟨_, rfl⟩
              refine lv_iinc (v := x_36) (lv' := [(10, .int x_36), (11, .int i_173), (9, .int r_16), (8, .int i_147), (7, .int v_18), (6, .int v_2), (5, .int v_1), (0, .ref m0), (1, .int s_), (2, .int n), (3, .int i)]) hx hb dX8_meant_194 hl (k := 1) rfl ex_36.symm (by decide) rfl (fun ls hl => ?_)
              refine lv_iload hx hb dX8_meant_197 (lv_at hl 3 rfl) ?_
              refine lv_iload_n hx hb dX8_meant_199 rfl (lv_at hl 10 rfl) ?_
              refine lv_icmp_ne (tgt := 208) hx hb dX8_meant_200 (by decide) (fun c_37 => ?_) (fun c_37 => ?_)
              · have fc_37 : i_147.toInt ≠ i.toInt := zf_ne c_37 rfl rfl
                refine lv_iload hx hb dX8_meant_208 (lv_at hl 4 rfl) ?_
                refine lv_istore (lv' := [(7, .int v_18), (10, .int x_36), (11, .int i_173), (9, .int r_16), (8, .int i_147), (6, .int v_2), (5, .int v_1), (0, .ref m0), (1, .int s_), (2, .int n), (3, .int i)]) hx hb dX8_meant_210 hl (by decide) rfl (fun ls hl => ?_)
                obtain ⟨x_38, ex_38⟩ : ∃ y : Int32, y = i_173 + (-1) := ⟨_, rfl⟩
                have qx_38 : x_38.toInt = i_173.toInt + (-1) := by rw [ex_38]; exact zf_add rfl (by decide) (by omega) (by omega)
                refine lv_iinc (v := x_38) (lv' := [(11, .int x_38), (7, .int v_18), (10, .int x_36), (9, .int r_16), (8, .int i_147), (6, .int v_2), (5, .int v_1), (0, .ref m0), (1, .int s_), (2, .int n), (3, .int i)]) hx hb dX8_meant_212 hl (k := 2) rfl ex_38.symm (by decide) rfl (fun ls hl => ?_)
                refine lv_goto (tgt := 173) hx hb dX8_meant_215 (by decide) ?_
                exact ih_173 x_38 v_18 x_36 _ _ _ (hP.sub [0, 1, 2, 3, 4, 5, 6] rfl) (hD.sub [0, 1, 2, 3, 4, 5, 6] (by decide) rfl) hS (lv_sub hl [0, 2, 3, 4, 1, 5, 6, 7, 8, 9, 10] rfl) (by omega) (by omega)
              · have fc_37 : i_147.toInt = i.toInt := zf_eq c_37 rfl rfl
                refine lv_iload hx hb dX8_meant_203 (lv_at hl 1 rfl) ?_
                refine lv_goto (tgt := 210) hx hb dX8_meant_205 (by decide) ?_
                refine lv_istore (lv' := [(7, .int i_173), (10, .int x_36), (11, .int i_173), (9, .int r_16), (8, .int i_147), (6, .int v_2), (5, .int v_1), (0, .ref m0), (1, .int s_), (2, .int n), (3, .int i)]) hx hb dX8_meant_210 hl (by decide) rfl (fun ls hl => ?_)
                obtain ⟨x_39, ex_39⟩ : ∃ y : Int32, y = i_173 + (-1) := ⟨_, rfl⟩
                have qx_39 : x_39.toInt = i_173.toInt + (-1) := by rw [ex_39]; exact zf_add rfl (by decide) (by omega) (by omega)
                refine lv_iinc (v := x_39) (lv' := [(11, .int x_39), (7, .int i_173), (10, .int x_36), (9, .int r_16), (8, .int i_147), (6, .int v_2), (5, .int v_1), (0, .ref m0), (1, .int s_), (2, .int n), (3, .int i)]) hx hb dX8_meant_212 hl (k := 2) rfl ex_39.symm (by decide) rfl (fun ls hl => ?_)
                refine lv_goto (tgt := 173) hx hb dX8_meant_215 (by decide) ?_
                exact ih_173 x_39 i_173 x_36 _ _ _ (hP.sub [0, 1, 2, 3, 4, 5, 6] rfl) (hD.sub [0, 1, 2, 3, 4, 5, 6] (by decide) rfl) hS (lv_sub hl [0, 2, 3, 4, 1, 5, 6, 7, 8, 9, 10] rfl) (by omega) (by omega)
            · have fc_35 : r_32.toInt = 0 := zf_eq c_35 rfl (by decide)
              refine lv_goto (tgt := 212) hx hb dX8_meant_191 (by decide) ?_
              obtain ⟨x_40, ex_40⟩ : ∃ y : Int32, y = i_173 + (-1) := ⟨_, rfl⟩
              have qx_40 : x_40.toInt = i_173.toInt + (-1) := by rw [ex_40]; exact zf_add rfl (by decide) (by omega) (by omega)
              refine lv_iinc (v := x_40) (lv' := [(11, .int x_40), (10, .int v_19), (9, .int r_16), (8, .int i_147), (7, .int v_18), (6, .int v_2), (5, .int v_1), (0, .ref m0), (1, .int s_), (2, .int n), (3, .int i)]) hx hb dX8_meant_212 hl (k := 0) rfl ex_40.symm (by decide) rfl (fun ls hl => ?_)
              refine lv_goto (tgt := 173) hx hb dX8_meant_215 (by decide) ?_
              exact ih_173 x_40 v_18 v_19 _ _ _ (hP.sub [0, 1, 2, 3, 4, 5, 6] rfl) (hD.sub [0, 1, 2, 3, 4, 5, 6] (by decide) rfl) hS (lv_sub hl [0, 1, 2, 3, 4, 5, 6, 7, 8, 9, 10] rfl) (by omega) (by omega)
  refine zcut (T := fun K => ∀ (H : Heap) (locs : List Loc) (ls : Array Slot) (ba : Int32) (hP : va_P D vwCl [(zMO m0 npu nte nat_ nde nto nse nhu nga nsd nfa mrf mki mpa mta mla msl mco mhe mso msi msh mce mca mwo mnu mte nba npl nen nnu nwr mwa mke mma mth mtr nra nik), (mrf, .inl (cI, 8, .inl grf)), (mhe, .inl (cI, 8, .inl ghe)), (msi, .inl (cI, 8, .inl gsi)), (mce, .inl (cJ, 1280, .inr (.inl gce))), (mki, .inl (cI, 8, .inl gki)), (mpa, .inl (cI, 8, .inl gpa))] H) (hD : va_D (va_A [(zMO m0 npu nte nat_ nde nto nse nhu nga nsd nfa mrf mki mpa mta mla msl mco mhe mso msi msh mce mca mwo mnu mte nba npl nen nnu nwr mwa mke mma mth mtr nra nik), (mrf, .inl (cI, 8, .inl grf)), (mhe, .inl (cI, 8, .inl ghe)), (msi, .inl (cI, 8, .inl gsi)), (mce, .inl (cJ, 1280, .inr (.inl gce))), (mki, .inl (cI, 8, .inl gki)), (mpa, .inl (cI, 8, .inl gpa))] s.heap.size) [(zMO m0 npu nte nat_ nde nto nse nhu nga nsd nfa mrf mki mpa mta mla msl mco mhe mso msi msh mce mca mwo mnu mte nba npl nen nnu nwr mwa mke mma mth mtr nra nik), (mrf, .inl (cI, 8, .inl grf)), (mhe, .inl (cI, 8, .inl ghe)), (msi, .inl (cI, 8, .inl gsi)), (mce, .inl (cJ, 1280, .inr (.inl gce))), (mki, .inl (cI, 8, .inl gki)), (mpa, .inl (cI, 8, .inl gpa))]) (hS : va_S (va_A [(zMO m0 npu nte nat_ nde nto nse nhu nga nsd nfa mrf mki mpa mta mla msl mco mhe mso msi msh mce mca mwo mnu mte nba npl nen nnu nwr mwa mke mma mth mtr nra nik), (mrf, .inl (cI, 8, .inl grf)), (mhe, .inl (cI, 8, .inl ghe)), (msi, .inl (cI, 8, .inl gsi)), (mce, .inl (cJ, 1280, .inr (.inl gce))), (mki, .inl (cI, 8, .inl gki)), (mpa, .inl (cI, 8, .inl gpa))] s.heap.size) s.heap H locs) (hl : lv_has ls 12 [(0, .ref m0), (1, .int s_), (2, .int n), (3, .int i), (4, .int ba)]) (hf55_0 : -6 ≤ ba.toInt ∧ ba.toInt ≤ 0) (hf55_1 : (ba.toInt = 0 → (0 ≤ s_.toInt ∧ s_.toInt ≤ 7) ∧ 1 ≤ n.toInt ∧ n.toInt ≤ 20)), K H locs ls) (pc := 55) ?_ (fun hcut55 => ?_)
  · intro H locs ls ba hP hD hS hl hf55_0 hf55_1
    refine lv_iconst (v := 0) hx hb dX8_meant_55 (by decide) ?_
    refine lv_istore (lv' := [(5, .int 0), (0, .ref m0), (1, .int s_), (2, .int n), (3, .int i), (4, .int ba)]) hx hb dX8_meant_56 hl (by decide) rfl (fun ls hl => ?_)
    obtain ⟨i_58, hi_58⟩ : ∃ i : Int32, i = 0 := ⟨_, rfl⟩
    replace hl : lv_has ls 12 [(5, .int i_58), (0, .ref m0), (1, .int s_), (2, .int n), (3, .int i), (4, .int ba)] := by rw [hi_58]; exact lv_sub hl [0, 1, 2, 3, 4, 5] rfl
    have h1i_58 : i_58.toInt = 0 := by rw [hi_58]; decide
    obtain ⟨nfu, hni_58⟩ : ∃ nq9 : Nat, n.toInt ≤ i_58.toInt + (nq9 : Int) := ⟨((n.toInt : Int) - 0).toNat, by omega⟩
    have hloi_58 : 0 ≤ i_58.toInt := by omega
    obtain ⟨v_41, hv_41⟩ : ∃ g : Int32, g = ba := ⟨_, rfl⟩
    replace hl : lv_has ls 12 [(5, .int i_58), (0, .ref m0), (1, .int s_), (2, .int n), (3, .int i), (4, .int v_41)] := by rw [hv_41]; exact hl
    have hbv_41 : -6 ≤ v_41.toInt ∧ v_41.toInt ≤ 0 := by rw [hv_41]; exact ⟨by omega, by omega⟩
    have hvi_58_0 : ((v_41 : Int32).toInt = 0 → (0 ≤ s_.toInt ∧ s_.toInt ≤ 7) ∧ 1 ≤ n.toInt ∧ n.toInt ≤ 20) := by
      (try rw [hi_58]); (try rw [hv_41]); omega
    clear h1i_58 hi_58 hv_41
    skip
    revert hni_58
    revert hloi_58
    revert hvi_58_0
    revert hbv_41
    revert hl
    revert hS
    revert hD
    revert hP
    revert ls
    revert locs
    revert H
    revert v_41
    revert i_58
    induction nfu with
    | zero =>
      intro i_58 v_41 H locs ls hP hD hS hl hbv_41 hvi_58_0 hloi_58 hni_58
      have hzi_58 : n.toInt ≤ i_58.toInt := by omega
      refine lv_iload hx hb dX8_meant_58 (lv_at hl 0 rfl) ?_
      refine lv_iload_n hx hb dX8_meant_60 rfl (lv_at hl 3 rfl) ?_
      refine lv_icmp_ge (tgt := 101) hx hb dX8_meant_61 (by decide) (fun c_42 => ?_) (fun c_42 => ?_)
      · have fc_42 : n.toInt ≤ i_58.toInt := zf_le c_42 rfl rfl
        refine lv_iload hx hb dX8_meant_101 (lv_at hl 5 rfl) ?_
        refine lv_if_ne (tgt := 120) hx hb dX8_meant_103 (by decide) (fun c_43 => ?_) (fun c_43 => ?_)
        · have fc_43 : v_41.toInt ≠ 0 := zf_ne c_43 rfl (by decide)
          refine lv_iload hx hb dX8_meant_120 (lv_at hl 5 rfl) ?_
          refine lv_if_eq (tgt := 132) hx hb dX8_meant_122 (by decide) (fun c_44 => ?_) (fun c_44 => ?_)
          · exfalso; have fc_44 : v_41.toInt = 0 := zf_eq c_44 rfl (by decide); omega
          · have fc_44 : v_41.toInt ≠ 0 := zf_ne c_44 rfl (by decide)
            refine lv_aload_n hx hb dX8_meant_125 rfl (lv_at hl 1 rfl) ?_
            refine lv_iload hx hb dX8_meant_126 (lv_at hl 5 rfl) ?_
            skip
            refine zw_V (As := [.int v_41]) (rest := []) (wr := [(mhe, .inl (cI, 8, .inl ghe)), (msi, .inl (cI, 8, .inl gsi)), (mce, .inl (cJ, 1280, .inr (.inl gce))), (mki, .inl (cI, 8, .inl gki)), (mpa, .inl (cI, 8, .inl gpa))]) ⟨hx, hb, hml, hown, hts⟩ (c_M_no l D cI cJ cZ cP cS po m0 mrf mki mpa mta mla msl mco mhe mso msi msh mce mca mwo mnu mte mwa mke mma mth mtr (npu) (nte) (nat_) (nde) (nto) (nse) (nhu) (nga) (nsd) (nfa) (nba) (npl) (nen) (nnu) (nwr) (nra) (nik) grf (v_41) hy0 hy1 hy2 hy3 hy4 hy5 hy6 hy7 hy8 hy9 hy10 hy11 hy12 hy13 (by omega) (by omega) H.size) (cwV 1 hts gX8_meant_X8_no rfl rfl rfl ⟨rfl, dh_X8_no⟩ ⟨Nat.le_of_ble_eq_true rfl, Nat.le_of_ble_eq_true rfl⟩) hK hN (hZ.kept hS) hP hD hS hA [0, 1] [2, 3, 4, 5, 6] rfl rfl (by decide) (by decide) (by decide) (va_recv (q := (RX8, TX8, 38)) hK hP (ci := 8) (q0 := 0) rfl rfl) rfl hl.1 rfl (Nat.le_of_ble_eq_true rfl) dX8_meant_128 ⟨Nat.le_of_ble_eq_true rfl, Nat.le_of_ble_eq_true rfl⟩ (fun r_45 u_46 H locs hr_45 hP hD hS => ?_)
            obtain ⟨q_47, rfl⟩ : ∃ z, z = u_46 := ⟨_, rfl⟩
            have h9R := zRe (ws' := [(mhe, .inl (cI, 8, .inl ghe)), (msi, .inl (cI, 8, .inl gsi)), (mce, .inl (cJ, 1280, .inr (.inl gce))), (mki, .inl (cI, 8, .inl gki)), (mpa, .inl (cI, 8, .inl gpa)), (zMO m0 npu nte nat_ nde nto nse nhu nga nsd nfa mrf mki mpa mta mla msl mco mhe mso msi msh mce mca mwo mnu mte nba npl nen nnu nwr mwa mke mma mth mtr nra nik), (mrf, .inl (cI, 8, .inl q_47))]) hP hD rfl
            clear hP hD
            obtain ⟨hP, hD⟩ := h9R
            have w_48 := hr_45
            obtain rfl : v_41 = r_45 := w_48.symm
            exact W.iret (v := v_41) hx hb hr (fun t ht hW => ⟨⟨v_41, q_47, rfl, trivial, zRet ht hP hD [5, 6, 0, 1, 2, 3, 4] (by decide) rfl⟩, hS.F ht⟩) hS.2.2 dX8_meant_131
        · have fc_43 : v_41.toInt = 0 := zf_eq c_43 rfl (by decide)
          refine lv_iload_n hx hb dX8_meant_106 rfl (lv_at hl 4 rfl) ?_
          refine lv_iconst (v := (-1)) hx hb dX8_meant_107 (by decide) ?_
          refine lv_icmp_lt (tgt := 116) hx hb dX8_meant_108 (by decide) (fun c_49 => ?_) (fun c_49 => ?_)
          · have fc_49 : i.toInt < (-1) := zf_lt c_49 rfl (by decide)
            refine lv_bipush (v := (-5)) hx hb dX8_meant_116 (by decide) ?_
            refine lv_istore (lv' := [(4, .int (-5)), (5, .int i_58), (0, .ref m0), (1, .int s_), (2, .int n), (3, .int i)]) hx hb dX8_meant_118 hl (by decide) rfl (fun ls hl => ?_)
            refine lv_iload hx hb dX8_meant_120 (lv_at hl 0 rfl) ?_
            refine lv_if_eq (tgt := 132) hx hb dX8_meant_122 (by decide) (fun c_50 => ?_) (fun c_50 => ?_)
            · exact absurd c_50 (by decide)
            · refine lv_aload_n hx hb dX8_meant_125 rfl (lv_at hl 2 rfl) ?_
              refine lv_iload hx hb dX8_meant_126 (lv_at hl 0 rfl) ?_
              skip
              refine zw_V (As := [.int (-5)]) (rest := []) (wr := [(mhe, .inl (cI, 8, .inl ghe)), (msi, .inl (cI, 8, .inl gsi)), (mce, .inl (cJ, 1280, .inr (.inl gce))), (mki, .inl (cI, 8, .inl gki)), (mpa, .inl (cI, 8, .inl gpa))]) ⟨hx, hb, hml, hown, hts⟩ (c_M_no_5 l D cI cJ cZ cP cS po m0 mrf mki mpa mta mla msl mco mhe mso msi msh mce mca mwo mnu mte mwa mke mma mth mtr (npu) (nte) (nat_) (nde) (nto) (nse) (nhu) (nga) (nsd) (nfa) (nba) (npl) (nen) (nnu) (nwr) (nra) (nik) grf hy0 hy1 hy2 hy3 hy4 hy5 hy6 hy7 hy8 hy9 hy10 hy11 hy12 hy13 H.size) (cwV 1 hts gX8_meant_X8_no rfl rfl rfl ⟨rfl, dh_X8_no⟩ ⟨Nat.le_of_ble_eq_true rfl, Nat.le_of_ble_eq_true rfl⟩) hK hN (hZ.kept hS) hP hD hS hA [0, 1] [2, 3, 4, 5, 6] rfl rfl (by decide) (by decide) (by decide) (va_recv (q := (RX8, TX8, 38)) hK hP (ci := 8) (q0 := 0) rfl rfl) rfl hl.1 rfl (Nat.le_of_ble_eq_true rfl) dX8_meant_128 ⟨Nat.le_of_ble_eq_true rfl, Nat.le_of_ble_eq_true rfl⟩ (fun r_51 u_52 H locs hr_51 hP hD hS => ?_)
              obtain ⟨q_53, rfl⟩ : ∃ z, z = u_52 := ⟨_, rfl⟩
              have h9R := zRe (ws' := [(mhe, .inl (cI, 8, .inl ghe)), (msi, .inl (cI, 8, .inl gsi)), (mce, .inl (cJ, 1280, .inr (.inl gce))), (mki, .inl (cI, 8, .inl gki)), (mpa, .inl (cI, 8, .inl gpa)), (zMO m0 npu nte nat_ nde nto nse nhu nga nsd nfa mrf mki mpa mta mla msl mco mhe mso msi msh mce mca mwo mnu mte nba npl nen nnu nwr mwa mke mma mth mtr nra nik), (mrf, .inl (cI, 8, .inl q_53))]) hP hD rfl
              clear hP hD
              obtain ⟨hP, hD⟩ := h9R
              obtain rfl := hr_51
              exact W.iret (v := (-5)) hx hb hr (fun t ht hW => ⟨⟨(-5), q_53, rfl, trivial, zRet ht hP hD [5, 6, 0, 1, 2, 3, 4] (by decide) rfl⟩, hS.F ht⟩) hS.2.2 dX8_meant_131
          · have fc_49 : (-1) ≤ i.toInt := zf_nlt c_49 rfl (by decide)
            refine lv_iload_n hx hb dX8_meant_111 rfl (lv_at hl 4 rfl) ?_
            refine lv_iload_n hx hb dX8_meant_112 rfl (lv_at hl 3 rfl) ?_
            refine lv_icmp_lt (tgt := 120) hx hb dX8_meant_113 (by decide) (fun c_54 => ?_) (fun c_54 => ?_)
            · have fc_54 : i.toInt < n.toInt := zf_lt c_54 rfl rfl
              refine lv_iload hx hb dX8_meant_120 (lv_at hl 5 rfl) ?_
              refine lv_if_eq (tgt := 132) hx hb dX8_meant_122 (by decide) (fun c_55 => ?_) (fun c_55 => ?_)
              · have fc_55 : v_41.toInt = 0 := zf_eq c_55 rfl (by decide)
                exact hcut132 H locs ls  hP hD hS (lv_sub hl [1, 2, 3, 4] rfl) (by first | omega | assumption | (simp; done) | (simp; omega))
              · exfalso; have fc_55 : v_41.toInt ≠ 0 := zf_ne c_55 rfl (by decide); omega
            · have fc_54 : n.toInt ≤ i.toInt := zf_nlt c_54 rfl rfl
              refine lv_bipush (v := (-5)) hx hb dX8_meant_116 (by decide) ?_
              refine lv_istore (lv' := [(4, .int (-5)), (5, .int i_58), (0, .ref m0), (1, .int s_), (2, .int n), (3, .int i)]) hx hb dX8_meant_118 hl (by decide) rfl (fun ls hl => ?_)
              refine lv_iload hx hb dX8_meant_120 (lv_at hl 0 rfl) ?_
              refine lv_if_eq (tgt := 132) hx hb dX8_meant_122 (by decide) (fun c_56 => ?_) (fun c_56 => ?_)
              · exact absurd c_56 (by decide)
              · refine lv_aload_n hx hb dX8_meant_125 rfl (lv_at hl 2 rfl) ?_
                refine lv_iload hx hb dX8_meant_126 (lv_at hl 0 rfl) ?_
                skip
                refine zw_V (As := [.int (-5)]) (rest := []) (wr := [(mhe, .inl (cI, 8, .inl ghe)), (msi, .inl (cI, 8, .inl gsi)), (mce, .inl (cJ, 1280, .inr (.inl gce))), (mki, .inl (cI, 8, .inl gki)), (mpa, .inl (cI, 8, .inl gpa))]) ⟨hx, hb, hml, hown, hts⟩ (c_M_no_5 l D cI cJ cZ cP cS po m0 mrf mki mpa mta mla msl mco mhe mso msi msh mce mca mwo mnu mte mwa mke mma mth mtr (npu) (nte) (nat_) (nde) (nto) (nse) (nhu) (nga) (nsd) (nfa) (nba) (npl) (nen) (nnu) (nwr) (nra) (nik) grf hy0 hy1 hy2 hy3 hy4 hy5 hy6 hy7 hy8 hy9 hy10 hy11 hy12 hy13 H.size) (cwV 1 hts gX8_meant_X8_no rfl rfl rfl ⟨rfl, dh_X8_no⟩ ⟨Nat.le_of_ble_eq_true rfl, Nat.le_of_ble_eq_true rfl⟩) hK hN (hZ.kept hS) hP hD hS hA [0, 1] [2, 3, 4, 5, 6] rfl rfl (by decide) (by decide) (by decide) (va_recv (q := (RX8, TX8, 38)) hK hP (ci := 8) (q0 := 0) rfl rfl) rfl hl.1 rfl (Nat.le_of_ble_eq_true rfl) dX8_meant_128 ⟨Nat.le_of_ble_eq_true rfl, Nat.le_of_ble_eq_true rfl⟩ (fun r_57 u_58 H locs hr_57 hP hD hS => ?_)
                obtain ⟨q_59, rfl⟩ : ∃ z, z = u_58 := ⟨_, rfl⟩
                have h9R := zRe (ws' := [(mhe, .inl (cI, 8, .inl ghe)), (msi, .inl (cI, 8, .inl gsi)), (mce, .inl (cJ, 1280, .inr (.inl gce))), (mki, .inl (cI, 8, .inl gki)), (mpa, .inl (cI, 8, .inl gpa)), (zMO m0 npu nte nat_ nde nto nse nhu nga nsd nfa mrf mki mpa mta mla msl mco mhe mso msi msh mce mca mwo mnu mte nba npl nen nnu nwr mwa mke mma mth mtr nra nik), (mrf, .inl (cI, 8, .inl q_59))]) hP hD rfl
                clear hP hD
                obtain ⟨hP, hD⟩ := h9R
                obtain rfl := hr_57
                exact W.iret (v := (-5)) hx hb hr (fun t ht hW => ⟨⟨(-5), q_59, rfl, trivial, zRet ht hP hD [5, 6, 0, 1, 2, 3, 4] (by decide) rfl⟩, hS.F ht⟩) hS.2.2 dX8_meant_131
      · exfalso; have fc_42 : i_58.toInt < n.toInt := zf_nle c_42 rfl rfl; omega
    | succ nfu ih =>
      intro i_58 v_41 H locs ls hP hD hS hl hbv_41 hvi_58_0 hloi_58 hni_58
      refine lv_iload hx hb dX8_meant_58 (lv_at hl 0 rfl) ?_
      refine lv_iload_n hx hb dX8_meant_60 rfl (lv_at hl 3 rfl) ?_
      refine lv_icmp_ge (tgt := 101) hx hb dX8_meant_61 (by decide) (fun c_60 => ?_) (fun c_60 => ?_)
      · have fc_60 : n.toInt ≤ i_58.toInt := zf_le c_60 rfl rfl
        refine lv_iload hx hb dX8_meant_101 (lv_at hl 5 rfl) ?_
        refine lv_if_ne (tgt := 120) hx hb dX8_meant_103 (by decide) (fun c_61 => ?_) (fun c_61 => ?_)
        · have fc_61 : v_41.toInt ≠ 0 := zf_ne c_61 rfl (by decide)
          refine lv_iload hx hb dX8_meant_120 (lv_at hl 5 rfl) ?_
          refine lv_if_eq (tgt := 132) hx hb dX8_meant_122 (by decide) (fun c_62 => ?_) (fun c_62 => ?_)
          · exfalso; have fc_62 : v_41.toInt = 0 := zf_eq c_62 rfl (by decide); omega
          · have fc_62 : v_41.toInt ≠ 0 := zf_ne c_62 rfl (by decide)
            refine lv_aload_n hx hb dX8_meant_125 rfl (lv_at hl 1 rfl) ?_
            refine lv_iload hx hb dX8_meant_126 (lv_at hl 5 rfl) ?_
            skip
            refine zw_V (As := [.int v_41]) (rest := []) (wr := [(mhe, .inl (cI, 8, .inl ghe)), (msi, .inl (cI, 8, .inl gsi)), (mce, .inl (cJ, 1280, .inr (.inl gce))), (mki, .inl (cI, 8, .inl gki)), (mpa, .inl (cI, 8, .inl gpa))]) ⟨hx, hb, hml, hown, hts⟩ (c_M_no l D cI cJ cZ cP cS po m0 mrf mki mpa mta mla msl mco mhe mso msi msh mce mca mwo mnu mte mwa mke mma mth mtr (npu) (nte) (nat_) (nde) (nto) (nse) (nhu) (nga) (nsd) (nfa) (nba) (npl) (nen) (nnu) (nwr) (nra) (nik) grf (v_41) hy0 hy1 hy2 hy3 hy4 hy5 hy6 hy7 hy8 hy9 hy10 hy11 hy12 hy13 (by omega) (by omega) H.size) (cwV 1 hts gX8_meant_X8_no rfl rfl rfl ⟨rfl, dh_X8_no⟩ ⟨Nat.le_of_ble_eq_true rfl, Nat.le_of_ble_eq_true rfl⟩) hK hN (hZ.kept hS) hP hD hS hA [0, 1] [2, 3, 4, 5, 6] rfl rfl (by decide) (by decide) (by decide) (va_recv (q := (RX8, TX8, 38)) hK hP (ci := 8) (q0 := 0) rfl rfl) rfl hl.1 rfl (Nat.le_of_ble_eq_true rfl) dX8_meant_128 ⟨Nat.le_of_ble_eq_true rfl, Nat.le_of_ble_eq_true rfl⟩ (fun r_63 u_64 H locs hr_63 hP hD hS => ?_)
            obtain ⟨q_65, rfl⟩ : ∃ z, z = u_64 := ⟨_, rfl⟩
            have h9R := zRe (ws' := [(mhe, .inl (cI, 8, .inl ghe)), (msi, .inl (cI, 8, .inl gsi)), (mce, .inl (cJ, 1280, .inr (.inl gce))), (mki, .inl (cI, 8, .inl gki)), (mpa, .inl (cI, 8, .inl gpa)), (zMO m0 npu nte nat_ nde nto nse nhu nga nsd nfa mrf mki mpa mta mla msl mco mhe mso msi msh mce mca mwo mnu mte nba npl nen nnu nwr mwa mke mma mth mtr nra nik), (mrf, .inl (cI, 8, .inl q_65))]) hP hD rfl
            clear hP hD
            obtain ⟨hP, hD⟩ := h9R
            have w_66 := hr_63
            obtain rfl : v_41 = r_63 := w_66.symm
            exact W.iret (v := v_41) hx hb hr (fun t ht hW => ⟨⟨v_41, q_65, rfl, trivial, zRet ht hP hD [5, 6, 0, 1, 2, 3, 4] (by decide) rfl⟩, hS.F ht⟩) hS.2.2 dX8_meant_131
        · have fc_61 : v_41.toInt = 0 := zf_eq c_61 rfl (by decide)
          refine lv_iload_n hx hb dX8_meant_106 rfl (lv_at hl 4 rfl) ?_
          refine lv_iconst (v := (-1)) hx hb dX8_meant_107 (by decide) ?_
          refine lv_icmp_lt (tgt := 116) hx hb dX8_meant_108 (by decide) (fun c_67 => ?_) (fun c_67 => ?_)
          · have fc_67 : i.toInt < (-1) := zf_lt c_67 rfl (by decide)
            refine lv_bipush (v := (-5)) hx hb dX8_meant_116 (by decide) ?_
            refine lv_istore (lv' := [(4, .int (-5)), (5, .int i_58), (0, .ref m0), (1, .int s_), (2, .int n), (3, .int i)]) hx hb dX8_meant_118 hl (by decide) rfl (fun ls hl => ?_)
            refine lv_iload hx hb dX8_meant_120 (lv_at hl 0 rfl) ?_
            refine lv_if_eq (tgt := 132) hx hb dX8_meant_122 (by decide) (fun c_68 => ?_) (fun c_68 => ?_)
            · exact absurd c_68 (by decide)
            · refine lv_aload_n hx hb dX8_meant_125 rfl (lv_at hl 2 rfl) ?_
              refine lv_iload hx hb dX8_meant_126 (lv_at hl 0 rfl) ?_
              skip
              refine zw_V (As := [.int (-5)]) (rest := []) (wr := [(mhe, .inl (cI, 8, .inl ghe)), (msi, .inl (cI, 8, .inl gsi)), (mce, .inl (cJ, 1280, .inr (.inl gce))), (mki, .inl (cI, 8, .inl gki)), (mpa, .inl (cI, 8, .inl gpa))]) ⟨hx, hb, hml, hown, hts⟩ (c_M_no_5 l D cI cJ cZ cP cS po m0 mrf mki mpa mta mla msl mco mhe mso msi msh mce mca mwo mnu mte mwa mke mma mth mtr (npu) (nte) (nat_) (nde) (nto) (nse) (nhu) (nga) (nsd) (nfa) (nba) (npl) (nen) (nnu) (nwr) (nra) (nik) grf hy0 hy1 hy2 hy3 hy4 hy5 hy6 hy7 hy8 hy9 hy10 hy11 hy12 hy13 H.size) (cwV 1 hts gX8_meant_X8_no rfl rfl rfl ⟨rfl, dh_X8_no⟩ ⟨Nat.le_of_ble_eq_true rfl, Nat.le_of_ble_eq_true rfl⟩) hK hN (hZ.kept hS) hP hD hS hA [0, 1] [2, 3, 4, 5, 6] rfl rfl (by decide) (by decide) (by decide) (va_recv (q := (RX8, TX8, 38)) hK hP (ci := 8) (q0 := 0) rfl rfl) rfl hl.1 rfl (Nat.le_of_ble_eq_true rfl) dX8_meant_128 ⟨Nat.le_of_ble_eq_true rfl, Nat.le_of_ble_eq_true rfl⟩ (fun r_69 u_70 H locs hr_69 hP hD hS => ?_)
              obtain ⟨q_71, rfl⟩ : ∃ z, z = u_70 := ⟨_, rfl⟩
              have h9R := zRe (ws' := [(mhe, .inl (cI, 8, .inl ghe)), (msi, .inl (cI, 8, .inl gsi)), (mce, .inl (cJ, 1280, .inr (.inl gce))), (mki, .inl (cI, 8, .inl gki)), (mpa, .inl (cI, 8, .inl gpa)), (zMO m0 npu nte nat_ nde nto nse nhu nga nsd nfa mrf mki mpa mta mla msl mco mhe mso msi msh mce mca mwo mnu mte nba npl nen nnu nwr mwa mke mma mth mtr nra nik), (mrf, .inl (cI, 8, .inl q_71))]) hP hD rfl
              clear hP hD
              obtain ⟨hP, hD⟩ := h9R
              obtain rfl := hr_69
              exact W.iret (v := (-5)) hx hb hr (fun t ht hW => ⟨⟨(-5), q_71, rfl, trivial, zRet ht hP hD [5, 6, 0, 1, 2, 3, 4] (by decide) rfl⟩, hS.F ht⟩) hS.2.2 dX8_meant_131
          · have fc_67 : (-1) ≤ i.toInt := zf_nlt c_67 rfl (by decide)
            refine lv_iload_n hx hb dX8_meant_111 rfl (lv_at hl 4 rfl) ?_
            refine lv_iload_n hx hb dX8_meant_112 rfl (lv_at hl 3 rfl) ?_
            refine lv_icmp_lt (tgt := 120) hx hb dX8_meant_113 (by decide) (fun c_72 => ?_) (fun c_72 => ?_)
            · have fc_72 : i.toInt < n.toInt := zf_lt c_72 rfl rfl
              refine lv_iload hx hb dX8_meant_120 (lv_at hl 5 rfl) ?_
              refine lv_if_eq (tgt := 132) hx hb dX8_meant_122 (by decide) (fun c_73 => ?_) (fun c_73 => ?_)
              · have fc_73 : v_41.toInt = 0 := zf_eq c_73 rfl (by decide)
                exact hcut132 H locs ls  hP hD hS (lv_sub hl [1, 2, 3, 4] rfl) (by first | omega | assumption | (simp; done) | (simp; omega))
              · exfalso; have fc_73 : v_41.toInt ≠ 0 := zf_ne c_73 rfl (by decide); omega
            · have fc_72 : n.toInt ≤ i.toInt := zf_nlt c_72 rfl rfl
              refine lv_bipush (v := (-5)) hx hb dX8_meant_116 (by decide) ?_
              refine lv_istore (lv' := [(4, .int (-5)), (5, .int i_58), (0, .ref m0), (1, .int s_), (2, .int n), (3, .int i)]) hx hb dX8_meant_118 hl (by decide) rfl (fun ls hl => ?_)
              refine lv_iload hx hb dX8_meant_120 (lv_at hl 0 rfl) ?_
              refine lv_if_eq (tgt := 132) hx hb dX8_meant_122 (by decide) (fun c_74 => ?_) (fun c_74 => ?_)
              · exact absurd c_74 (by decide)
              · refine lv_aload_n hx hb dX8_meant_125 rfl (lv_at hl 2 rfl) ?_
                refine lv_iload hx hb dX8_meant_126 (lv_at hl 0 rfl) ?_
                skip
                refine zw_V (As := [.int (-5)]) (rest := []) (wr := [(mhe, .inl (cI, 8, .inl ghe)), (msi, .inl (cI, 8, .inl gsi)), (mce, .inl (cJ, 1280, .inr (.inl gce))), (mki, .inl (cI, 8, .inl gki)), (mpa, .inl (cI, 8, .inl gpa))]) ⟨hx, hb, hml, hown, hts⟩ (c_M_no_5 l D cI cJ cZ cP cS po m0 mrf mki mpa mta mla msl mco mhe mso msi msh mce mca mwo mnu mte mwa mke mma mth mtr (npu) (nte) (nat_) (nde) (nto) (nse) (nhu) (nga) (nsd) (nfa) (nba) (npl) (nen) (nnu) (nwr) (nra) (nik) grf hy0 hy1 hy2 hy3 hy4 hy5 hy6 hy7 hy8 hy9 hy10 hy11 hy12 hy13 H.size) (cwV 1 hts gX8_meant_X8_no rfl rfl rfl ⟨rfl, dh_X8_no⟩ ⟨Nat.le_of_ble_eq_true rfl, Nat.le_of_ble_eq_true rfl⟩) hK hN (hZ.kept hS) hP hD hS hA [0, 1] [2, 3, 4, 5, 6] rfl rfl (by decide) (by decide) (by decide) (va_recv (q := (RX8, TX8, 38)) hK hP (ci := 8) (q0 := 0) rfl rfl) rfl hl.1 rfl (Nat.le_of_ble_eq_true rfl) dX8_meant_128 ⟨Nat.le_of_ble_eq_true rfl, Nat.le_of_ble_eq_true rfl⟩ (fun r_75 u_76 H locs hr_75 hP hD hS => ?_)
                obtain ⟨q_77, rfl⟩ : ∃ z, z = u_76 := ⟨_, rfl⟩
                have h9R := zRe (ws' := [(mhe, .inl (cI, 8, .inl ghe)), (msi, .inl (cI, 8, .inl gsi)), (mce, .inl (cJ, 1280, .inr (.inl gce))), (mki, .inl (cI, 8, .inl gki)), (mpa, .inl (cI, 8, .inl gpa)), (zMO m0 npu nte nat_ nde nto nse nhu nga nsd nfa mrf mki mpa mta mla msl mco mhe mso msi msh mce mca mwo mnu mte nba npl nen nnu nwr mwa mke mma mth mtr nra nik), (mrf, .inl (cI, 8, .inl q_77))]) hP hD rfl
                clear hP hD
                obtain ⟨hP, hD⟩ := h9R
                obtain rfl := hr_75
                exact W.iret (v := (-5)) hx hb hr (fun t ht hW => ⟨⟨(-5), q_77, rfl, trivial, zRet ht hP hD [5, 6, 0, 1, 2, 3, 4] (by decide) rfl⟩, hS.F ht⟩) hS.2.2 dX8_meant_131
      · have fc_60 : i_58.toInt < n.toInt := zf_nle c_60 rfl rfl
        refine lv_iload hx hb dX8_meant_64 (lv_at hl 5 rfl) ?_
        refine lv_if_ne (tgt := 101) hx hb dX8_meant_66 (by decide) (fun c_78 => ?_) (fun c_78 => ?_)
        · have fc_78 : v_41.toInt ≠ 0 := zf_ne c_78 rfl (by decide)
          refine lv_iload hx hb dX8_meant_101 (lv_at hl 5 rfl) ?_
          refine lv_if_ne (tgt := 120) hx hb dX8_meant_103 (by decide) (fun c_79 => ?_) (fun c_79 => ?_)
          · have fc_79 : v_41.toInt ≠ 0 := zf_ne c_79 rfl (by decide)
            refine lv_iload hx hb dX8_meant_120 (lv_at hl 5 rfl) ?_
            refine lv_if_eq (tgt := 132) hx hb dX8_meant_122 (by decide) (fun c_80 => ?_) (fun c_80 => ?_)
            · exfalso; have fc_80 : v_41.toInt = 0 := zf_eq c_80 rfl (by decide); omega
            · have fc_80 : v_41.toInt ≠ 0 := zf_ne c_80 rfl (by decide)
              refine lv_aload_n hx hb dX8_meant_125 rfl (lv_at hl 1 rfl) ?_
              refine lv_iload hx hb dX8_meant_126 (lv_at hl 5 rfl) ?_
              skip
              refine zw_V (As := [.int v_41]) (rest := []) (wr := [(mhe, .inl (cI, 8, .inl ghe)), (msi, .inl (cI, 8, .inl gsi)), (mce, .inl (cJ, 1280, .inr (.inl gce))), (mki, .inl (cI, 8, .inl gki)), (mpa, .inl (cI, 8, .inl gpa))]) ⟨hx, hb, hml, hown, hts⟩ (c_M_no l D cI cJ cZ cP cS po m0 mrf mki mpa mta mla msl mco mhe mso msi msh mce mca mwo mnu mte mwa mke mma mth mtr (npu) (nte) (nat_) (nde) (nto) (nse) (nhu) (nga) (nsd) (nfa) (nba) (npl) (nen) (nnu) (nwr) (nra) (nik) grf (v_41) hy0 hy1 hy2 hy3 hy4 hy5 hy6 hy7 hy8 hy9 hy10 hy11 hy12 hy13 (by omega) (by omega) H.size) (cwV 1 hts gX8_meant_X8_no rfl rfl rfl ⟨rfl, dh_X8_no⟩ ⟨Nat.le_of_ble_eq_true rfl, Nat.le_of_ble_eq_true rfl⟩) hK hN (hZ.kept hS) hP hD hS hA [0, 1] [2, 3, 4, 5, 6] rfl rfl (by decide) (by decide) (by decide) (va_recv (q := (RX8, TX8, 38)) hK hP (ci := 8) (q0 := 0) rfl rfl) rfl hl.1 rfl (Nat.le_of_ble_eq_true rfl) dX8_meant_128 ⟨Nat.le_of_ble_eq_true rfl, Nat.le_of_ble_eq_true rfl⟩ (fun r_81 u_82 H locs hr_81 hP hD hS => ?_)
              obtain ⟨q_83, rfl⟩ : ∃ z, z = u_82 := ⟨_, rfl⟩
              have h9R := zRe (ws' := [(mhe, .inl (cI, 8, .inl ghe)), (msi, .inl (cI, 8, .inl gsi)), (mce, .inl (cJ, 1280, .inr (.inl gce))), (mki, .inl (cI, 8, .inl gki)), (mpa, .inl (cI, 8, .inl gpa)), (zMO m0 npu nte nat_ nde nto nse nhu nga nsd nfa mrf mki mpa mta mla msl mco mhe mso msi msh mce mca mwo mnu mte nba npl nen nnu nwr mwa mke mma mth mtr nra nik), (mrf, .inl (cI, 8, .inl q_83))]) hP hD rfl
              clear hP hD
              obtain ⟨hP, hD⟩ := h9R
              have w_84 := hr_81
              obtain rfl : v_41 = r_81 := w_84.symm
              exact W.iret (v := v_41) hx hb hr (fun t ht hW => ⟨⟨v_41, q_83, rfl, trivial, zRet ht hP hD [5, 6, 0, 1, 2, 3, 4] (by decide) rfl⟩, hS.F ht⟩) hS.2.2 dX8_meant_131
          · exfalso; have fc_79 : v_41.toInt = 0 := zf_eq c_79 rfl (by decide); omega
        · have fc_78 : v_41.toInt = 0 := zf_eq c_78 rfl (by decide)
          refine lv_aload_n hx hb dX8_meant_69 rfl (lv_at hl 1 rfl) ?_
          refine lv_iload_n hx hb dX8_meant_70 rfl (lv_at hl 2 rfl) ?_
          refine lv_iload hx hb dX8_meant_71 (lv_at hl 0 rfl) ?_
          refine zc_V (As := [.int s_, .int i_58]) (rest := []) ⟨hx, hb, hml, hown, hts⟩ (c_M_intAt l D cI cJ cZ cP cS po m0 mrf mki mpa mta mla msl mco mhe mso msi msh mce mca mwo mnu mte mwa mke mma mth mtr (npu) (nte) (nat_) (nde) (nto) (nse) (nhu) (nga) (nsd) (nfa) (nba) (npl) (nen) (nnu) (nwr) (nra) (nik) gce (s_) (i_58) hy0 hy1 hy2 hy3 hy4 hy5 hy6 hy7 hy8 hy9 hy10 hy11 hy12 hy13 (by omega) (by omega) (by omega) (by omega)) (cwV 2 hts gX8_meant_X8_intAt rfl rfl rfl ⟨rfl, dh_X8_intAt⟩ ⟨Nat.le_of_ble_eq_true rfl, Nat.le_of_ble_eq_true rfl⟩) hK hN (hZ.kept hS) hP (hP.sub [0, 4] rfl) (va_recv (q := (RX8, TX8, 38)) hK hP (ci := 8) (q0 := 0) rfl rfl) rfl hl.1 rfl (Nat.le_of_ble_eq_true rfl) dX8_meant_73 ⟨Nat.le_of_ble_eq_true rfl, Nat.le_of_ble_eq_true rfl⟩ (fun r_85 hr_85 => ?_)
          refine lv_if_lt (tgt := 91) hx hb dX8_meant_76 (by decide) (fun c_86 => ?_) (fun c_86 => ?_)
          · have fc_86 : r_85.toInt < 0 := zf_lt c_86 rfl (by decide)
            refine lv_bipush (v := (-6)) hx hb dX8_meant_91 (by decide) ?_
            refine lv_istore (lv' := [(4, .int (-6)), (5, .int i_58), (0, .ref m0), (1, .int s_), (2, .int n), (3, .int i)]) hx hb dX8_meant_93 hl (by decide) rfl (fun ls hl => ?_)
            obtain ⟨x_87, ex_87⟩ : ∃ y : Int32, y = i_58 + 1 := ⟨_, rfl⟩
            have qx_87 : x_87.toInt = i_58.toInt + 1 := dw_inc ex_87 fc_60
            refine lv_iinc (v := x_87) (lv' := [(5, .int x_87), (4, .int (-6)), (0, .ref m0), (1, .int s_), (2, .int n), (3, .int i)]) hx hb dX8_meant_95 hl (k := 1) rfl ex_87.symm (by decide) rfl (fun ls hl => ?_)
            refine lv_goto (tgt := 58) hx hb dX8_meant_98 (by decide) ?_
            exact ih x_87 (-6) _ _ _ (hP.sub [0, 1, 2, 3, 4, 5, 6] rfl) (hD.sub [0, 1, 2, 3, 4, 5, 6] (by decide) rfl) hS (lv_sub hl [0, 2, 3, 4, 5, 1] rfl) ⟨by decide, by decide⟩ (show (((-6) : Int32).toInt = 0 → (0 ≤ s_.toInt ∧ s_.toInt ≤ 7) ∧ 1 ≤ n.toInt ∧ n.toInt ≤ 20) from by first | omega | exact fun h => absurd h (by decide)) (dw_lo hloi_58 qx_87) (dw_hn hni_58 qx_87)
          · have fc_86 : 0 ≤ r_85.toInt := zf_nlt c_86 rfl (by decide)
            refine lv_aload_n hx hb dX8_meant_79 rfl (lv_at hl 1 rfl) ?_
            refine lv_iload_n hx hb dX8_meant_80 rfl (lv_at hl 2 rfl) ?_
            refine lv_iload hx hb dX8_meant_81 (lv_at hl 0 rfl) ?_
            refine zc_V (As := [.int s_, .int i_58]) (rest := []) ⟨hx, hb, hml, hown, hts⟩ (c_M_intAt l D cI cJ cZ cP cS po m0 mrf mki mpa mta mla msl mco mhe mso msi msh mce mca mwo mnu mte mwa mke mma mth mtr (npu) (nte) (nat_) (nde) (nto) (nse) (nhu) (nga) (nsd) (nfa) (nba) (npl) (nen) (nnu) (nwr) (nra) (nik) gce (s_) (i_58) hy0 hy1 hy2 hy3 hy4 hy5 hy6 hy7 hy8 hy9 hy10 hy11 hy12 hy13 (by omega) (by omega) (by omega) (by omega)) (cwV 2 hts gX8_meant_X8_intAt rfl rfl rfl ⟨rfl, dh_X8_intAt⟩ ⟨Nat.le_of_ble_eq_true rfl, Nat.le_of_ble_eq_true rfl⟩) hK hN (hZ.kept hS) hP (hP.sub [0, 4] rfl) (va_recv (q := (RX8, TX8, 38)) hK hP (ci := 8) (q0 := 0) rfl rfl) rfl hl.1 rfl (Nat.le_of_ble_eq_true rfl) dX8_meant_83 ⟨Nat.le_of_ble_eq_true rfl, Nat.le_of_ble_eq_true rfl⟩ (fun r_88 hr_88 => ?_)
            refine lv_bipush (v := 24) hx hb dX8_meant_86 (by decide) ?_
            refine lv_icmp_le (tgt := 95) hx hb dX8_meant_88 (by decide) (fun c_89 => ?_) (fun c_89 => ?_)
            · have fc_89 : r_88.toInt ≤ 24 := zf_le c_89 rfl (by decide)
              obtain ⟨x_90, ex_90⟩ : ∃ y : Int32, y = i_58 + 1 := ⟨_, rfl⟩
              have qx_90 : x_90.toInt = i_58.toInt + 1 := dw_inc ex_90 fc_60
              refine lv_iinc (v := x_90) (lv' := [(5, .int x_90), (0, .ref m0), (1, .int s_), (2, .int n), (3, .int i), (4, .int v_41)]) hx hb dX8_meant_95 hl (k := 0) rfl ex_90.symm (by decide) rfl (fun ls hl => ?_)
              refine lv_goto (tgt := 58) hx hb dX8_meant_98 (by decide) ?_
              exact ih x_90 v_41 _ _ _ (hP.sub [0, 1, 2, 3, 4, 5, 6] rfl) (hD.sub [0, 1, 2, 3, 4, 5, 6] (by decide) rfl) hS (lv_sub hl [0, 1, 2, 3, 4, 5] rfl) hbv_41 (show ((v_41 : Int32).toInt = 0 → (0 ≤ s_.toInt ∧ s_.toInt ≤ 7) ∧ 1 ≤ n.toInt ∧ n.toInt ≤ 20) from by first | omega | exact fun h => absurd h (by decide)) (dw_lo hloi_58 qx_90) (dw_hn hni_58 qx_90)
            · have fc_89 : 24 < r_88.toInt := zf_nle c_89 rfl (by decide)
              refine lv_bipush (v := (-6)) hx hb dX8_meant_91 (by decide) ?_
              refine lv_istore (lv' := [(4, .int (-6)), (5, .int i_58), (0, .ref m0), (1, .int s_), (2, .int n), (3, .int i)]) hx hb dX8_meant_93 hl (by decide) rfl (fun ls hl => ?_)
              obtain ⟨x_91, ex_91⟩ : ∃ y : Int32, y = i_58 + 1 := ⟨_, rfl⟩
              have qx_91 : x_91.toInt = i_58.toInt + 1 := dw_inc ex_91 fc_60
              refine lv_iinc (v := x_91) (lv' := [(5, .int x_91), (4, .int (-6)), (0, .ref m0), (1, .int s_), (2, .int n), (3, .int i)]) hx hb dX8_meant_95 hl (k := 1) rfl ex_91.symm (by decide) rfl (fun ls hl => ?_)
              refine lv_goto (tgt := 58) hx hb dX8_meant_98 (by decide) ?_
              exact ih x_91 (-6) _ _ _ (hP.sub [0, 1, 2, 3, 4, 5, 6] rfl) (hD.sub [0, 1, 2, 3, 4, 5, 6] (by decide) rfl) hS (lv_sub hl [0, 2, 3, 4, 5, 1] rfl) ⟨by decide, by decide⟩ (show (((-6) : Int32).toInt = 0 → (0 ≤ s_.toInt ∧ s_.toInt ≤ 7) ∧ 1 ≤ n.toInt ∧ n.toInt ≤ 20) from by first | omega | exact fun h => absurd h (by decide)) (dw_lo hloi_58 qx_91) (dw_hn hni_58 qx_91)
  refine lv_aload_n hx hb dX8_meant_0 rfl (lv_at hl 0 rfl) ?_
  refine lv_iload_n hx hb dX8_meant_1 rfl (lv_at hl 1 rfl) ?_
  refine zc_V (As := [.int s_]) (rest := []) ⟨hx, hb, hml, hown, hts⟩ (c_M_wanted l D cI cJ cZ cP cS po m0 mrf mki mpa mta mla msl mco mhe mso msi msh mce mca mwo mnu mte mwa mke mma mth mtr (npu) (nte) (nat_) (nde) (nto) (nse) (nhu) (nga) (nsd) (nfa) (nba) (npl) (nen) (nnu) (nwr) (nra) (nik) ghe (s_) hy0 hy1 hy2 hy3 hy4 hy5 hy6 hy7 hy8 hy9 hy10 hy11 hy12 hy13 hp_ghe) (cwV 1 hts gX8_meant_X8_wanted rfl rfl rfl ⟨rfl, dh_X8_wanted⟩ ⟨Nat.le_of_ble_eq_true rfl, Nat.le_of_ble_eq_true rfl⟩) hK hN (hZ.kept hS) hP (hP.sub [0, 2] rfl) (va_recv (q := (RX8, TX8, 38)) hK hP (ci := 8) (q0 := 0) rfl rfl) rfl hl.1 rfl (Nat.le_of_ble_eq_true rfl) dX8_meant_2 ⟨Nat.le_of_ble_eq_true rfl, Nat.le_of_ble_eq_true rfl⟩ (fun r_92 hr_92 => ?_)
  rcases hr_92 with ⟨rfl, g_93⟩ | ⟨rfl, g_94, g_95⟩ | ⟨rfl, g_96, g_97⟩ | ⟨rfl, g_98, g_99⟩ | ⟨rfl, g_100, g_101⟩
  · refine lv_istore (lv' := [(4, .int (-1)), (0, .ref m0), (1, .int s_), (2, .int n), (3, .int i)]) hx hb dX8_meant_5 hl (by decide) rfl (fun ls hl => ?_)
    refine lv_iload hx hb dX8_meant_7 (lv_at hl 0 rfl) ?_
    refine lv_if_ne (tgt := 55) hx hb dX8_meant_9 (by decide) (fun c_102 => ?_) (fun c_102 => ?_)
    · exact hcut55 H locs ls ((-1) : Int32) hP hD hS (lv_sub hl [1, 2, 3, 4, 0] rfl) (by first | omega | assumption | (simp; done) | (simp; omega)) (by first | omega | assumption | (simp; done) | (simp; omega))
    · exact absurd c_102 (by decide)
  · refine lv_istore (lv' := [(4, .int (-1)), (0, .ref m0), (1, .int s_), (2, .int n), (3, .int i)]) hx hb dX8_meant_5 hl (by decide) rfl (fun ls hl => ?_)
    refine lv_iload hx hb dX8_meant_7 (lv_at hl 0 rfl) ?_
    refine lv_if_ne (tgt := 55) hx hb dX8_meant_9 (by decide) (fun c_103 => ?_) (fun c_103 => ?_)
    · exact hcut55 H locs ls ((-1) : Int32) hP hD hS (lv_sub hl [1, 2, 3, 4, 0] rfl) (by first | omega | assumption | (simp; done) | (simp; omega)) (by first | omega | assumption | (simp; done) | (simp; omega))
    · exact absurd c_103 (by decide)
  · refine lv_istore (lv' := [(4, .int 0), (0, .ref m0), (1, .int s_), (2, .int n), (3, .int i)]) hx hb dX8_meant_5 hl (by decide) rfl (fun ls hl => ?_)
    refine lv_iload hx hb dX8_meant_7 (lv_at hl 0 rfl) ?_
    refine lv_if_ne (tgt := 55) hx hb dX8_meant_9 (by decide) (fun c_104 => ?_) (fun c_104 => ?_)
    · exact absurd c_104 (by decide)
    · refine lv_iload_n hx hb dX8_meant_12 rfl (lv_at hl 3 rfl) ?_
      refine lv_if_ge (tgt := 21) hx hb dX8_meant_13 (by decide) (fun c_105 => ?_) (fun c_105 => ?_)
      · have fc_105 : 0 ≤ n.toInt := zf_le c_105 (by decide) rfl
        refine lv_iload_n hx hb dX8_meant_21 rfl (lv_at hl 3 rfl) ?_
        refine lv_aload_n hx hb dX8_meant_22 rfl (lv_at hl 1 rfl) ?_
        refine va_get (D := D) (ci := 8) (v := .ref msi) (C := RX8) (T := TX8) (N := 38) hx hb hts hi_X8_meant_8 hown hK hP 0 rfl rfl 19 (by decide) (hts (.fieldLink RX8 53 "TheLiningsInItModel" "size" "[I") (List.mem_of_getElem? (i := 1) rfl)) (fun _ h9 => h9) rfl dX8_meant_23 ?_
        refine lv_iload_n hx hb dX8_meant_26 rfl (lv_at hl 2 rfl) ?_
        refine va_iald hx hb hK hP 3 0 rfl rfl (zf_in (by omega) (by omega)) dX8_meant_27 ?_
        refine lv_topi (fun x_106 ex_106 => ?_)
        have bx_106 : 0 ≤ x_106.toInt ∧ x_106.toInt ≤ 160 := by rw [ex_106]; exact hp_gsi _
        refine lv_icmp_le (tgt := 36) hx hb dX8_meant_28 (by decide) (fun c_107 => ?_) (fun c_107 => ?_)
        · have fc_107 : n.toInt ≤ x_106.toInt := zf_le c_107 rfl rfl
          refine lv_iload_n hx hb dX8_meant_36 rfl (lv_at hl 3 rfl) ?_
          refine lv_iconst (v := 1) hx hb dX8_meant_37 (by decide) ?_
          refine lv_icmp_lt (tgt := 47) hx hb dX8_meant_38 (by decide) (fun c_108 => ?_) (fun c_108 => ?_)
          · have fc_108 : n.toInt < 1 := zf_lt c_108 rfl (by decide)
            refine lv_bipush (v := (-6)) hx hb dX8_meant_47 (by decide) ?_
            refine lv_goto (tgt := 53) hx hb dX8_meant_49 (by decide) ?_
            refine lv_istore (lv' := [(4, .int (-6)), (0, .ref m0), (1, .int s_), (2, .int n), (3, .int i)]) hx hb dX8_meant_53 hl (by decide) rfl (fun ls hl => ?_)
            exact hcut55 H locs ls ((-6) : Int32) hP hD hS (lv_sub hl [1, 2, 3, 4, 0] rfl) (by first | omega | assumption | (simp; done) | (simp; omega)) (by first | omega | assumption | (simp; done) | (simp; omega))
          · have fc_108 : 1 ≤ n.toInt := zf_nlt c_108 rfl (by decide)
            refine lv_iload_n hx hb dX8_meant_41 rfl (lv_at hl 3 rfl) ?_
            refine lv_bipush (v := 20) hx hb dX8_meant_42 (by decide) ?_
            refine lv_icmp_le (tgt := 52) hx hb dX8_meant_44 (by decide) (fun c_109 => ?_) (fun c_109 => ?_)
            · have fc_109 : n.toInt ≤ 20 := zf_le c_109 rfl (by decide)
              refine lv_iconst (v := 0) hx hb dX8_meant_52 (by decide) ?_
              refine lv_istore (lv' := [(4, .int 0), (0, .ref m0), (1, .int s_), (2, .int n), (3, .int i)]) hx hb dX8_meant_53 hl (by decide) rfl (fun ls hl => ?_)
              exact hcut55 H locs ls (0 : Int32) hP hD hS (lv_sub hl [1, 2, 3, 4, 0] rfl) (by first | omega | assumption | (simp; done) | (simp; omega)) (by first | omega | assumption | (simp; done) | (simp; omega))
            · have fc_109 : 20 < n.toInt := zf_nle c_109 rfl (by decide)
              refine lv_bipush (v := (-6)) hx hb dX8_meant_47 (by decide) ?_
              refine lv_goto (tgt := 53) hx hb dX8_meant_49 (by decide) ?_
              refine lv_istore (lv' := [(4, .int (-6)), (0, .ref m0), (1, .int s_), (2, .int n), (3, .int i)]) hx hb dX8_meant_53 hl (by decide) rfl (fun ls hl => ?_)
              exact hcut55 H locs ls ((-6) : Int32) hP hD hS (lv_sub hl [1, 2, 3, 4, 0] rfl) (by first | omega | assumption | (simp; done) | (simp; omega)) (by first | omega | assumption | (simp; done) | (simp; omega))
        · have fc_107 : x_106.toInt < n.toInt := zf_nle c_107 rfl rfl
          refine lv_bipush (v := (-5)) hx hb dX8_meant_31 (by decide) ?_
          refine lv_goto (tgt := 53) hx hb dX8_meant_33 (by decide) ?_
          refine lv_istore (lv' := [(4, .int (-5)), (0, .ref m0), (1, .int s_), (2, .int n), (3, .int i)]) hx hb dX8_meant_53 hl (by decide) rfl (fun ls hl => ?_)
          exact hcut55 H locs ls ((-5) : Int32) hP hD hS (lv_sub hl [1, 2, 3, 4, 0] rfl) (by first | omega | assumption | (simp; done) | (simp; omega)) (by first | omega | assumption | (simp; done) | (simp; omega))
      · have fc_105 : n.toInt < 0 := zf_nle c_105 (by decide) rfl
        refine lv_bipush (v := (-4)) hx hb dX8_meant_16 (by decide) ?_
        refine lv_goto (tgt := 53) hx hb dX8_meant_18 (by decide) ?_
        refine lv_istore (lv' := [(4, .int (-4)), (0, .ref m0), (1, .int s_), (2, .int n), (3, .int i)]) hx hb dX8_meant_53 hl (by decide) rfl (fun ls hl => ?_)
        exact hcut55 H locs ls ((-4) : Int32) hP hD hS (lv_sub hl [1, 2, 3, 4, 0] rfl) (by first | omega | assumption | (simp; done) | (simp; omega)) (by first | omega | assumption | (simp; done) | (simp; omega))
  · refine lv_istore (lv' := [(4, .int (-3)), (0, .ref m0), (1, .int s_), (2, .int n), (3, .int i)]) hx hb dX8_meant_5 hl (by decide) rfl (fun ls hl => ?_)
    refine lv_iload hx hb dX8_meant_7 (lv_at hl 0 rfl) ?_
    refine lv_if_ne (tgt := 55) hx hb dX8_meant_9 (by decide) (fun c_110 => ?_) (fun c_110 => ?_)
    · exact hcut55 H locs ls ((-3) : Int32) hP hD hS (lv_sub hl [1, 2, 3, 4, 0] rfl) (by first | omega | assumption | (simp; done) | (simp; omega)) (by first | omega | assumption | (simp; done) | (simp; omega))
    · exact absurd c_110 (by decide)
  · refine lv_istore (lv' := [(4, .int (-2)), (0, .ref m0), (1, .int s_), (2, .int n), (3, .int i)]) hx hb dX8_meant_5 hl (by decide) rfl (fun ls hl => ?_)
    refine lv_iload hx hb dX8_meant_7 (lv_at hl 0 rfl) ?_
    refine lv_if_ne (tgt := 55) hx hb dX8_meant_9 (by decide) (fun c_111 => ?_) (fun c_111 => ?_)
    · exact hcut55 H locs ls ((-2) : Int32) hP hD hS (lv_sub hl [1, 2, 3, 4, 0] rfl) (by first | omega | assumption | (simp; done) | (simp; omega)) (by first | omega | assumption | (simp; done) | (simp; omega))
    · exact absurd c_111 (by decide)
end
section
theorem gl_X8_draw_X80 : GoodIn wsX8_draw wsX80 := (dg_t (dg_t (dg_t gw_wsX80)))
theorem hi_X8_draw_8 : ∀ w ∈ u_ws RX8 TX8 38, w ∈ wsX8_draw := fun w h => (gl_X8_draw_X80 w h).1
theorem hi_X8_makes_8 : ∀ w ∈ u_ws RX8 TX8 38, w ∈ wsX8_makes := fun w h => (gl_X8_makes_X80 w h).1
theorem hi_X8_pulls_8 : ∀ w ∈ u_ws RX8 TX8 38, w ∈ wsX8_pulls := fun w h => (gl_X8_pulls_X80 w h).1
theorem hi_X8_closes_8 : ∀ w ∈ u_ws RX8 TX8 38, w ∈ wsX8_closes := fun w h => (gl_X8_closes_X80 w h).1
theorem hi_X8_close_8 : ∀ w ∈ u_ws RX8 TX8 38, w ∈ wsX8_close := fun w h => (gl_X8_close_X80 w h).1
theorem hi_X8_dayIn_8 : ∀ w ∈ u_ws RX8 TX8 38, w ∈ wsX8_dayIn := fun w h => (gl_X8_dayIn_X80 w h).1
theorem gl_X8_seed_X80 : GoodIn wsX8_seed wsX80 := (dg_t (dg_t gw_wsX80))
theorem hi_X8_seed_8 : ∀ w ∈ u_ws RX8 TX8 38, w ∈ wsX8_seed := fun w h => (gl_X8_seed_X80 w h).1
end
section
theorem gl_X8_body_X80 : GoodIn wsX8_body wsX80 := (dg_t (dg_t (dg_t gw_wsX80)))
theorem hi_X8_body_8 : ∀ w ∈ u_ws RX8 TX8 38, w ∈ wsX8_body := fun w h => (gl_X8_body_X80 w h).1
set_option maxHeartbeats 4000000 in
set_option maxRecDepth 100000 in
theorem c_M_body (l : Launch) (D : va_G) (cI cJ cZ cP cS : ClassId) (po : zPool) (m0 mrf mki mpa mta mla msl mco mhe mso msi msh mce mca mwo mnu mte mwa mke mma mth mtr : Nat) (npu nte nat_ nde nto nse nhu nga nsd nfa nba npl nen nnu nwr nra nik : Int32) (gtr : Nat → Int32) (bo : Int32) (hy0 : 0 ≤ npu.toInt) (hy1 : npu.toInt ≤ 8) (hy2 : 4 ≤ nte.toInt) (hy3 : nte.toInt ≤ 40) (hy4 : 0 ≤ nat_.toInt) (hy5 : nat_.toInt ≤ 40) (hy6 : 0 ≤ nde.toInt) (hy7 : nde.toInt ≤ 24) (hy8 : 0 ≤ nhu.toInt) (hy9 : nhu.toInt ≤ 9) (hy10 : 0 ≤ nra.toInt) (hy11 : nra.toInt ≤ 2000) (hy12 : 0 ≤ nik.toInt) (hy13 : nik.toInt ≤ 1) (hpz : Nat) : Met l yX8_body wsX8_body ({ frames := 0, cells := 0, slots := 0, locals := 0 }) (va_Pc [.ref m0, .int bo] (zW D (zKT cI cJ cZ cP cS) po [(zMO m0 npu nte nat_ nde nto nse nhu nga nsd nfa mrf mki mpa mta mla msl mco mhe mso msi msh mce mca mwo mnu mte nba npl nen nnu nwr mwa mke mma mth mtr nra nik), (mtr, .inl (cI, 20, .inl gtr))] hpz)) (va_Qv (fun (u : (Int32) × (Nat → Int32)) => u.1.toInt = nra.toInt + 1 ∧ (True)) (zB D [(zMO m0 npu nte nat_ nde nto nse nhu nga nsd nfa mrf mki mpa mta mla msl mco mhe mso msi msh mce mca mwo mnu mte nba npl nen nnu nwr mwa mke mma mth mtr nra nik), (mtr, .inl (cI, 20, .inl gtr))] hpz (fun (u : (Int32) × (Nat → Int32)) => [(zMO m0 npu nte nat_ nde nto nse nhu nga nsd nfa mrf mki mpa mta mla msl mco mhe mso msi msh mce mca mwo mnu mte nba npl nen nnu nwr mwa mke mma mth mtr u.1 nik), (mtr, .inl (cI, 20, .inl u.2))])) (va_A [(zMO m0 npu nte nat_ nde nto nse nhu nga nsd nfa mrf mki mpa mta mla msl mco mhe mso msi msh mce mca mwo mnu mte nba npl nen nnu nwr mwa mke mma mth mtr nra nik), (mtr, .inl (cI, 20, .inl gtr))] hpz)) 0 0 (va_A [(zMO m0 npu nte nat_ nde nto nse nhu nga nsd nfa mrf mki mpa mta mla msl mco mhe mso msi msh mce mca mwo mnu mte nba npl nen nnu nwr mwa mke mma mth mtr nra nik), (mtr, .inl (cI, 20, .inl gtr))] hpz) := by
  refine Met.ofW (cc := cX8_body) (maxL := 2) (ret := none) (by decide) rfl ?_
  intro p e s m args below meth c s₁ B hml hv
  obtain ⟨rfl, hsz, hP, hK, hD0, hN, hZ⟩ := hv
  have hx := B.exec
  have hb := B.bytes
  have hr := B.returns
  have hts := atoms_spec (ws := wsX8_body) B.pre
  have hown : s.vm.findClass RX8 = some m.cls := findClass_of_methodNamed B.named
  have hlocks := B.notSynchronized
  subst hsz
  have hD := hD0.self (sz := s.heap.size)
  have hA := zA_of hD
  have hl := lv_entry ([.ref m0, .int bo]) (n := 2) (Nat.le_of_ble_eq_true rfl)
  rw [lg_entry_eq]
  generalize (lg_sl ([.ref m0, .int bo]) ++ List.replicate (2 - (lg_sl ([.ref m0, .int bo])).length) Slot.unset).toArray = ls at hl ⊢
  replace hl : lv_has ls 2 [(0, .ref m0), (1, .int bo)] := hl
  refine zw_begin hP hD (fun H locs hP1 hS => ?_)
  clear hP
  have hP := hP1
  clear hP1
  refine lv_aload_n hx hb dX8_body_0 rfl (lv_at hl 0 rfl) ?_
  refine va_get (D := D) (ci := 8) (v := .int nra) (C := RX8) (T := TX8) (N := 38) hx hb hts hi_X8_body_8 hown hK hP 0 rfl rfl 36 (by decide) (hts (.fieldLink RX8 285 "TheLiningsInItModel" "ran" "I") (List.mem_of_getElem? (i := 1) rfl)) (fun _ h9 => h9) rfl dX8_body_1 ?_
  refine lv_bipush (v := 20) hx hb dX8_body_4 (by decide) ?_
  refine lv_icmp_ge (tgt := 19) hx hb dX8_body_6 (by decide) (fun c_1 => ?_) (fun c_1 => ?_)
  · have fc_1 : 20 ≤ nra.toInt := zf_le c_1 (by decide) rfl
    refine lv_aload_n hx hb dX8_body_19 rfl (lv_at hl 0 rfl) ?_
    refine lv_dup hx hb dX8_body_20 rfl ?_
    refine va_get (D := D) (ci := 8) (v := .int nra) (C := RX8) (T := TX8) (N := 38) hx hb hts hi_X8_body_8 hown hK hP 0 rfl rfl 36 (by decide) (hts (.fieldLink RX8 285 "TheLiningsInItModel" "ran" "I") (List.mem_of_getElem? (i := 1) rfl)) (fun _ h9 => h9) rfl dX8_body_21 ?_
    refine lv_iconst (v := 1) hx hb dX8_body_24 (by decide) ?_
    refine lv_iadd hx hb dX8_body_25 ?_
    refine lv_topi (fun x_2 ex_2 => ?_)
    have qx_2 : x_2.toInt = nra.toInt + 1 := by rw [ex_2]; exact zf_add rfl (by decide) (by omega) (by omega)
    refine va_put (D := D) (ci := 8) (v := .int x_2) (ty := .int) (C := RX8) (T := TX8) (N := 38) hx hb hts hi_X8_body_8 tyX8 tyX8_ok nmX8 hown hK hP hD hS 0 rfl rfl 36 (by decide) (hts (.fieldLink RX8 285 "TheLiningsInItModel" "ran" "I") (List.mem_of_getElem? (i := 1) rfl)) (fun _ h9 => h9) rfl (tyX8_ok 36 (Nat.le_of_ble_eq_true rfl)) rfl rfl (Nat.le_of_ble_eq_true rfl) dX8_body_26 (fun H locs hP hD hS => ?_)
    have h9R := zRe (ws' := [(zMO m0 npu nte nat_ nde nto nse nhu nga nsd nfa mrf mki mpa mta mla msl mco mhe mso msi msh mce mca mwo mnu mte nba npl nen nnu nwr mwa mke mma mth mtr x_2 nik), (mtr, .inl (cI, 20, .inl gtr))]) hP hD rfl
    clear hP hD
    obtain ⟨hP, hD⟩ := h9R
    exact W.vret hx hb hr (fun t ht hW => ⟨⟨(x_2, gtr), rfl, ⟨(show x_2.toInt = nra.toInt + 1 from by omega), trivial⟩, zRet ht hP hD [0, 1] (by decide) rfl⟩, hS.F ht⟩) hS.2.2 dX8_body_29
  · have fc_1 : nra.toInt < 20 := zf_nle c_1 (by decide) rfl
    refine lv_aload_n hx hb dX8_body_9 rfl (lv_at hl 0 rfl) ?_
    refine va_get (D := D) (ci := 8) (v := .ref mtr) (C := RX8) (T := TX8) (N := 38) hx hb hts hi_X8_body_8 hown hK hP 0 rfl rfl 35 (by decide) (hts (.fieldLink RX8 87 "TheLiningsInItModel" "trace" "[I") (List.mem_of_getElem? (i := 2) rfl)) (fun _ h9 => h9) rfl dX8_body_10 ?_
    refine lv_aload_n hx hb dX8_body_13 rfl (lv_at hl 0 rfl) ?_
    refine va_get (D := D) (ci := 8) (v := .int nra) (C := RX8) (T := TX8) (N := 38) hx hb hts hi_X8_body_8 hown hK hP 0 rfl rfl 36 (by decide) (hts (.fieldLink RX8 285 "TheLiningsInItModel" "ran" "I") (List.mem_of_getElem? (i := 1) rfl)) (fun _ h9 => h9) rfl dX8_body_14 ?_
    refine lv_iload_n hx hb dX8_body_17 rfl (lv_at hl 1 rfl) ?_
    refine va_iast hx hb hK hP hD hS 1 0 rfl rfl (zf_in (by omega) (by omega)) dX8_body_18 (fun H locs hP hD hS => ?_)
    obtain ⟨g_3, hg_3⟩ : ∃ g : Nat → Int32, g = upd gtr nra.toNatClampNeg bo := ⟨_, rfl⟩
    rw [← hg_3] at hP hD
    clear hg_3
    have h9R := zRe (ws' := [(zMO m0 npu nte nat_ nde nto nse nhu nga nsd nfa mrf mki mpa mta mla msl mco mhe mso msi msh mce mca mwo mnu mte nba npl nen nnu nwr mwa mke mma mth mtr nra nik), (mtr, .inl (cI, 20, .inl g_3))]) hP hD rfl
    clear hP hD
    obtain ⟨hP, hD⟩ := h9R
    refine lv_aload_n hx hb dX8_body_19 rfl (lv_at hl 0 rfl) ?_
    refine lv_dup hx hb dX8_body_20 rfl ?_
    refine va_get (D := D) (ci := 8) (v := .int nra) (C := RX8) (T := TX8) (N := 38) hx hb hts hi_X8_body_8 hown hK hP 0 rfl rfl 36 (by decide) (hts (.fieldLink RX8 285 "TheLiningsInItModel" "ran" "I") (List.mem_of_getElem? (i := 1) rfl)) (fun _ h9 => h9) rfl dX8_body_21 ?_
    refine lv_iconst (v := 1) hx hb dX8_body_24 (by decide) ?_
    refine lv_iadd hx hb dX8_body_25 ?_
    refine lv_topi (fun x_4 ex_4 => ?_)
    have qx_4 : x_4.toInt = nra.toInt + 1 := dw_incK ex_4 fc_1 (by decide)
    refine va_put (D := D) (ci := 8) (v := .int x_4) (ty := .int) (C := RX8) (T := TX8) (N := 38) hx hb hts hi_X8_body_8 tyX8 tyX8_ok nmX8 hown hK hP hD hS 0 rfl rfl 36 (by decide) (hts (.fieldLink RX8 285 "TheLiningsInItModel" "ran" "I") (List.mem_of_getElem? (i := 1) rfl)) (fun _ h9 => h9) rfl (tyX8_ok 36 (Nat.le_of_ble_eq_true rfl)) rfl rfl (Nat.le_of_ble_eq_true rfl) dX8_body_26 (fun H locs hP hD hS => ?_)
    have h9R := zRe (ws' := [(zMO m0 npu nte nat_ nde nto nse nhu nga nsd nfa mrf mki mpa mta mla msl mco mhe mso msi msh mce mca mwo mnu mte nba npl nen nnu nwr mwa mke mma mth mtr x_4 nik), (mtr, .inl (cI, 20, .inl g_3))]) hP hD rfl
    clear hP hD
    obtain ⟨hP, hD⟩ := h9R
    exact W.vret hx hb hr (fun t ht hW => ⟨⟨(x_4, g_3), rfl, ⟨(show x_4.toInt = nra.toInt + 1 from by omega), trivial⟩, zRet ht hP hD [0, 1] (by decide) rfl⟩, hS.F ht⟩) hS.2.2 dX8_body_29
theorem hi_X8_pulling_8 : ∀ w ∈ u_ws RX8 TX8 38, w ∈ wsX8_pulling := fun w h => (gl_X8_pulling_X80 w h).1
set_option maxHeartbeats 4000000 in
set_option maxRecDepth 100000 in
theorem c_M_pulling (l : Launch) (D : va_G) (cI cJ cZ cP cS : ClassId) (po : zPool) (m0 mrf mki mpa mta mla msl mco mhe mso msi msh mce mca mwo mnu mte mwa mke mma mth mtr : Nat) (npu nte nat_ nde nto nse nhu nga nsd nfa nba npl nen nnu nwr nra nik : Int32) (gki gpa gtr : Nat → Int32) (p_ x : Int32) (hy0 : 0 ≤ npu.toInt) (hy1 : npu.toInt ≤ 8) (hy2 : 4 ≤ nte.toInt) (hy3 : nte.toInt ≤ 40) (hy4 : 0 ≤ nat_.toInt) (hy5 : nat_.toInt ≤ 40) (hy6 : 0 ≤ nde.toInt) (hy7 : nde.toInt ≤ 24) (hy8 : 0 ≤ nhu.toInt) (hy9 : nhu.toInt ≤ 9) (hy10 : 0 ≤ nra.toInt) (hy11 : nra.toInt ≤ 2000) (hy12 : 0 ≤ nik.toInt) (hy13 : nik.toInt ≤ 1) (hy14 : 0 ≤ p_.toInt) (hy15 : p_.toInt ≤ 7) (hy16 : 0 ≤ nra.toInt) (hy17 : nra.toInt ≤ 1000) (hp_gki : zRg gki (0) 6) (hp_gpa : zRg gpa (0) 9) (hpz : Nat) : Met l yX8_pulling wsX8_pulling ({ frames := 1, cells := 0, slots := 0, locals := 21 }) (va_Pc [.ref m0, .int p_, .int x] (zW D (zKT cI cJ cZ cP cS) po [(zMO m0 npu nte nat_ nde nto nse nhu nga nsd nfa mrf mki mpa mta mla msl mco mhe mso msi msh mce mca mwo mnu mte nba npl nen nnu nwr mwa mke mma mth mtr nra nik), (mki, .inl (cI, 8, .inl gki)), (mpa, .inl (cI, 8, .inl gpa)), (mtr, .inl (cI, 20, .inl gtr))] hpz)) (va_Qi (fun (r : Int32) (u : (Int32) × (Nat → Int32)) => (0 ≤ u.1.toInt ∧ u.1.toInt ≤ 2000) ∧ (u.1.toInt ≤ nra.toInt + 4) ∧ (True)) (zB D [(zMO m0 npu nte nat_ nde nto nse nhu nga nsd nfa mrf mki mpa mta mla msl mco mhe mso msi msh mce mca mwo mnu mte nba npl nen nnu nwr mwa mke mma mth mtr nra nik), (mki, .inl (cI, 8, .inl gki)), (mpa, .inl (cI, 8, .inl gpa)), (mtr, .inl (cI, 20, .inl gtr))] hpz (fun (u : (Int32) × (Nat → Int32)) => [(zMO m0 npu nte nat_ nde nto nse nhu nga nsd nfa mrf mki mpa mta mla msl mco mhe mso msi msh mce mca mwo mnu mte nba npl nen nnu nwr mwa mke mma mth mtr u.1 nik), (mki, .inl (cI, 8, .inl gki)), (mpa, .inl (cI, 8, .inl gpa)), (mtr, .inl (cI, 20, .inl u.2))])) (va_A [(zMO m0 npu nte nat_ nde nto nse nhu nga nsd nfa mrf mki mpa mta mla msl mco mhe mso msi msh mce mca mwo mnu mte nba npl nen nnu nwr mwa mke mma mth mtr nra nik), (mki, .inl (cI, 8, .inl gki)), (mpa, .inl (cI, 8, .inl gpa)), (mtr, .inl (cI, 20, .inl gtr))] hpz)) 0 0 (va_A [(zMO m0 npu nte nat_ nde nto nse nhu nga nsd nfa mrf mki mpa mta mla msl mco mhe mso msi msh mce mca mwo mnu mte nba npl nen nnu nwr mwa mke mma mth mtr nra nik), (mki, .inl (cI, 8, .inl gki)), (mpa, .inl (cI, 8, .inl gpa)), (mtr, .inl (cI, 20, .inl gtr))] hpz) := by
  refine Met.ofW (cc := cX8_pulling) (maxL := 5) (ret := (some .int)) (by decide) rfl ?_
  intro p e s m args below meth c s₁ B hml hv
  obtain ⟨rfl, hsz, hP, hK, hD0, hN, hZ⟩ := hv
  have hx := B.exec
  have hb := B.bytes
  have hr := B.returns
  have hts := atoms_spec (ws := wsX8_pulling) B.pre
  have hown : s.vm.findClass RX8 = some m.cls := findClass_of_methodNamed B.named
  have hlocks := B.notSynchronized
  subst hsz
  have hD := hD0.self (sz := s.heap.size)
  have hA := zA_of hD
  have hl := lv_entry ([.ref m0, .int p_, .int x]) (n := 5) (Nat.le_of_ble_eq_true rfl)
  rw [lg_entry_eq]
  generalize (lg_sl ([.ref m0, .int p_, .int x]) ++ List.replicate (5 - (lg_sl ([.ref m0, .int p_, .int x])).length) Slot.unset).toArray = ls at hl ⊢
  replace hl : lv_has ls 5 [(0, .ref m0), (1, .int p_), (2, .int x)] := hl
  refine zw_begin hP hD (fun H locs hP1 hS => ?_)
  clear hP
  have hP := hP1
  clear hP1
  refine lv_aload_n hx hb dX8_pulling_0 rfl (lv_at hl 0 rfl) ?_
  refine va_get (D := D) (ci := 8) (v := .ref mki) (C := RX8) (T := TX8) (N := 38) hx hb hts hi_X8_pulling_8 hown hK hP 0 rfl rfl 11 (by decide) (hts (.fieldLink RX8 29 "TheLiningsInItModel" "kind" "[I") (List.mem_of_getElem? (i := 1) rfl)) (fun _ h9 => h9) rfl dX8_pulling_1 ?_
  refine lv_iload_n hx hb dX8_pulling_4 rfl (lv_at hl 1 rfl) ?_
  refine va_iald hx hb hK hP 1 0 rfl rfl (zf_in (by omega) (by omega)) dX8_pulling_5 ?_
  refine lv_topi (fun x_1 ex_1 => ?_)
  have bx_1 : 0 ≤ x_1.toInt ∧ x_1.toInt ≤ 6 := by rw [ex_1]; exact hp_gki _
  refine lv_istore_n (lv' := [(3, .int x_1), (0, .ref m0), (1, .int p_), (2, .int x)]) hx hb dX8_pulling_6 rfl hl (by decide) rfl (fun ls hl => ?_)
  have hsp : x_1 = 0 ∨ x_1 = 1 ∨ x_1 = 2 ∨ x_1 = 3 ∨ x_1 = 4 ∨ x_1 = 5 ∨ x_1 = 6 := by
    rcases (show x_1.toInt = 0 ∨ x_1.toInt = 1 ∨ x_1.toInt = 2 ∨ x_1.toInt = 3 ∨ x_1.toInt = 4 ∨ x_1.toInt = 5 ∨ x_1.toInt = 6 by omega) with h9 | h9 | h9 | h9 | h9 | h9 | h9
    · refine Or.inl ?_; exact zf_val h9 (by decide)
    · refine Or.inr (Or.inl ?_); exact zf_val h9 (by decide)
    · refine Or.inr (Or.inr (Or.inl ?_)); exact zf_val h9 (by decide)
    · refine Or.inr (Or.inr (Or.inr (Or.inl ?_))); exact zf_val h9 (by decide)
    · refine Or.inr (Or.inr (Or.inr (Or.inr (Or.inl ?_)))); exact zf_val h9 (by decide)
    · refine Or.inr (Or.inr (Or.inr (Or.inr (Or.inr (Or.inl ?_))))); exact zf_val h9 (by decide)
    · refine Or.inr (Or.inr (Or.inr (Or.inr (Or.inr (Or.inr (?_)))))); exact zf_val h9 (by decide)
  rcases hsp with rfl | rfl | rfl | rfl | rfl | rfl | rfl
  · have kc0 : (0 : Int32).toInt = 0 := by decide
    refine lv_iload_n hx hb dX8_pulling_7 rfl (lv_at hl 0 rfl) ?_
    refine lv_bipush (v := 6) hx hb dX8_pulling_8 (by decide) ?_
    refine lv_icmp_ne (tgt := 19) hx hb dX8_pulling_10 (by decide) (fun c_2 => ?_) (fun c_2 => ?_)
    · refine lv_iload_n hx hb dX8_pulling_19 rfl (lv_at hl 0 rfl) ?_
      refine lv_iconst (v := 4) hx hb dX8_pulling_20 (by decide) ?_
      refine lv_icmp_eq (tgt := 30) hx hb dX8_pulling_21 (by decide) (fun c_3 => ?_) (fun c_3 => ?_)
      · exact absurd c_3 (by decide)
      · refine lv_iload_n hx hb dX8_pulling_24 rfl (lv_at hl 0 rfl) ?_
        refine lv_bipush (v := 6) hx hb dX8_pulling_25 (by decide) ?_
        refine lv_icmp_ne (tgt := 36) hx hb dX8_pulling_27 (by decide) (fun c_4 => ?_) (fun c_4 => ?_)
        · refine lv_iload_n hx hb dX8_pulling_36 rfl (lv_at hl 0 rfl) ?_
          refine lv_iconst (v := 1) hx hb dX8_pulling_37 (by decide) ?_
          refine lv_icmp_eq (tgt := 46) hx hb dX8_pulling_38 (by decide) (fun c_5 => ?_) (fun c_5 => ?_)
          · exact absurd c_5 (by decide)
          · refine lv_iload_n hx hb dX8_pulling_41 rfl (lv_at hl 0 rfl) ?_
            refine lv_iconst (v := 3) hx hb dX8_pulling_42 (by decide) ?_
            refine lv_icmp_ne (tgt := 52) hx hb dX8_pulling_43 (by decide) (fun c_6 => ?_) (fun c_6 => ?_)
            · refine lv_aload_n hx hb dX8_pulling_52 rfl (lv_at hl 1 rfl) ?_
              refine lv_bipush (v := 10) hx hb dX8_pulling_53 (by decide) ?_
              skip
              refine zw_Vv (As := [.int 10]) (rest := []) (wr := [(mki, .inl (cI, 8, .inl gki)), (mpa, .inl (cI, 8, .inl gpa))]) ⟨hx, hb, hml, hown, hts⟩ (c_M_body l D cI cJ cZ cP cS po m0 mrf mki mpa mta mla msl mco mhe mso msi msh mce mca mwo mnu mte mwa mke mma mth mtr (npu) (nte) (nat_) (nde) (nto) (nse) (nhu) (nga) (nsd) (nfa) (nba) (npl) (nen) (nnu) (nwr) (nra) (nik) gtr (10) hy0 hy1 hy2 hy3 hy4 hy5 hy6 hy7 hy8 hy9 hy10 hy11 hy12 hy13 H.size) (cwV 1 hts gX8_pulling_X8_body rfl rfl rfl ⟨rfl, dh_X8_body⟩ ⟨Nat.le_of_ble_eq_true rfl, Nat.le_of_ble_eq_true rfl⟩) hK hN (hZ.kept hS) hP hD hS hA [0, 3] [1, 2] rfl rfl (by decide) (by decide) (by decide) (va_recv (q := (RX8, TX8, 38)) hK hP (ci := 8) (q0 := 0) rfl rfl) rfl hl.1 rfl (Nat.le_of_ble_eq_true rfl) dX8_pulling_55 ⟨Nat.le_of_ble_eq_true rfl, Nat.le_of_ble_eq_true rfl⟩ (fun u_8 H locs hr_7 hP hD hS => ?_)
              obtain ⟨q_9, q_10⟩ := u_8
              try dsimp only at hr_7
              obtain ⟨hbq_9, hr_7⟩ := hr_7
              have h9R := zRe (ws' := [(mki, .inl (cI, 8, .inl gki)), (mpa, .inl (cI, 8, .inl gpa)), (zMO m0 npu nte nat_ nde nto nse nhu nga nsd nfa mrf mki mpa mta mla msl mco mhe mso msi msh mce mca mwo mnu mte nba npl nen nnu nwr mwa mke mma mth mtr q_9 nik), (mtr, .inl (cI, 20, .inl q_10))]) hP hD rfl
              clear hP hD
              obtain ⟨hP, hD⟩ := h9R
              refine lv_iload_n hx hb dX8_pulling_58 rfl (lv_at hl 3 rfl) ?_
              refine lv_iload_n hx hb dX8_pulling_59 rfl (lv_at hl 2 rfl) ?_
              refine lv_iadd hx hb dX8_pulling_60 ?_
              refine lv_topi (fun x_11 ex_11 => ?_)
              refine lv_istore (lv' := [(4, .int x_11), (3, .int 0), (0, .ref m0), (1, .int p_), (2, .int x)]) hx hb dX8_pulling_61 hl (by decide) rfl (fun ls hl => ?_)
              refine lv_iload_n hx hb dX8_pulling_63 rfl (lv_at hl 1 rfl) ?_
              refine lv_iconst (v := 1) hx hb dX8_pulling_64 (by decide) ?_
              refine lv_icmp_eq (tgt := 73) hx hb dX8_pulling_65 (by decide) (fun c_12 => ?_) (fun c_12 => ?_)
              · exact absurd c_12 (by decide)
              · refine lv_iload_n hx hb dX8_pulling_68 rfl (lv_at hl 1 rfl) ?_
                refine lv_iconst (v := 3) hx hb dX8_pulling_69 (by decide) ?_
                refine lv_icmp_ne (tgt := 84) hx hb dX8_pulling_70 (by decide) (fun c_13 => ?_) (fun c_13 => ?_)
                · refine lv_iload_n hx hb dX8_pulling_84 rfl (lv_at hl 1 rfl) ?_
                  refine lv_iconst (v := 4) hx hb dX8_pulling_85 (by decide) ?_
                  refine lv_icmp_eq (tgt := 95) hx hb dX8_pulling_86 (by decide) (fun c_14 => ?_) (fun c_14 => ?_)
                  · exact absurd c_14 (by decide)
                  · refine lv_iload_n hx hb dX8_pulling_89 rfl (lv_at hl 1 rfl) ?_
                    refine lv_bipush (v := 6) hx hb dX8_pulling_90 (by decide) ?_
                    refine lv_icmp_ne (tgt := 101) hx hb dX8_pulling_92 (by decide) (fun c_15 => ?_) (fun c_15 => ?_)
                    · refine lv_iload_n hx hb dX8_pulling_101 rfl (lv_at hl 1 rfl) ?_
                      refine lv_bipush (v := 6) hx hb dX8_pulling_102 (by decide) ?_
                      refine lv_icmp_ne (tgt := 114) hx hb dX8_pulling_104 (by decide) (fun c_16 => ?_) (fun c_16 => ?_)
                      · refine lv_iload hx hb dX8_pulling_114 (lv_at hl 0 rfl) ?_
                        exact W.iret (v := x_11) hx hb hr (fun t ht hW => ⟨⟨x_11, (q_9, q_10), rfl, ⟨(show 0 ≤ q_9.toInt ∧ q_9.toInt ≤ 2000 from ⟨by omega, by omega⟩), (show q_9.toInt ≤ nra.toInt + 4 from by omega), trivial⟩, zRet ht hP hD [2, 0, 1, 3] (by decide) rfl⟩, hS.F ht⟩) hS.2.2 dX8_pulling_116
                      · exact absurd c_16 (by decide)
                    · exact absurd c_15 (by decide)
                · exact absurd c_13 (by decide)
            · exact absurd c_6 (by decide)
        · exact absurd c_4 (by decide)
    · exact absurd c_2 (by decide)
  · have kc1 : (1 : Int32).toInt = 1 := by decide
    refine lv_iload_n hx hb dX8_pulling_7 rfl (lv_at hl 0 rfl) ?_
    refine lv_bipush (v := 6) hx hb dX8_pulling_8 (by decide) ?_
    refine lv_icmp_ne (tgt := 19) hx hb dX8_pulling_10 (by decide) (fun c_17 => ?_) (fun c_17 => ?_)
    · refine lv_iload_n hx hb dX8_pulling_19 rfl (lv_at hl 0 rfl) ?_
      refine lv_iconst (v := 4) hx hb dX8_pulling_20 (by decide) ?_
      refine lv_icmp_eq (tgt := 30) hx hb dX8_pulling_21 (by decide) (fun c_18 => ?_) (fun c_18 => ?_)
      · exact absurd c_18 (by decide)
      · refine lv_iload_n hx hb dX8_pulling_24 rfl (lv_at hl 0 rfl) ?_
        refine lv_bipush (v := 6) hx hb dX8_pulling_25 (by decide) ?_
        refine lv_icmp_ne (tgt := 36) hx hb dX8_pulling_27 (by decide) (fun c_19 => ?_) (fun c_19 => ?_)
        · refine lv_iload_n hx hb dX8_pulling_36 rfl (lv_at hl 0 rfl) ?_
          refine lv_iconst (v := 1) hx hb dX8_pulling_37 (by decide) ?_
          refine lv_icmp_eq (tgt := 46) hx hb dX8_pulling_38 (by decide) (fun c_20 => ?_) (fun c_20 => ?_)
          · refine lv_aload_n hx hb dX8_pulling_46 rfl (lv_at hl 1 rfl) ?_
            refine lv_bipush (v := 20) hx hb dX8_pulling_47 (by decide) ?_
            skip
            refine zw_Vv (As := [.int 20]) (rest := []) (wr := [(mki, .inl (cI, 8, .inl gki)), (mpa, .inl (cI, 8, .inl gpa))]) ⟨hx, hb, hml, hown, hts⟩ (c_M_body l D cI cJ cZ cP cS po m0 mrf mki mpa mta mla msl mco mhe mso msi msh mce mca mwo mnu mte mwa mke mma mth mtr (npu) (nte) (nat_) (nde) (nto) (nse) (nhu) (nga) (nsd) (nfa) (nba) (npl) (nen) (nnu) (nwr) (nra) (nik) gtr (20) hy0 hy1 hy2 hy3 hy4 hy5 hy6 hy7 hy8 hy9 hy10 hy11 hy12 hy13 H.size) (cwV 1 hts gX8_pulling_X8_body rfl rfl rfl ⟨rfl, dh_X8_body⟩ ⟨Nat.le_of_ble_eq_true rfl, Nat.le_of_ble_eq_true rfl⟩) hK hN (hZ.kept hS) hP hD hS hA [0, 3] [1, 2] rfl rfl (by decide) (by decide) (by decide) (va_recv (q := (RX8, TX8, 38)) hK hP (ci := 8) (q0 := 0) rfl rfl) rfl hl.1 rfl (Nat.le_of_ble_eq_true rfl) dX8_pulling_49 ⟨Nat.le_of_ble_eq_true rfl, Nat.le_of_ble_eq_true rfl⟩ (fun u_22 H locs hr_21 hP hD hS => ?_)
            obtain ⟨q_23, q_24⟩ := u_22
            try dsimp only at hr_21
            obtain ⟨hbq_23, hr_21⟩ := hr_21
            have h9R := zRe (ws' := [(mki, .inl (cI, 8, .inl gki)), (mpa, .inl (cI, 8, .inl gpa)), (zMO m0 npu nte nat_ nde nto nse nhu nga nsd nfa mrf mki mpa mta mla msl mco mhe mso msi msh mce mca mwo mnu mte nba npl nen nnu nwr mwa mke mma mth mtr q_23 nik), (mtr, .inl (cI, 20, .inl q_24))]) hP hD rfl
            clear hP hD
            obtain ⟨hP, hD⟩ := h9R
            refine lv_aload_n hx hb dX8_pulling_52 rfl (lv_at hl 1 rfl) ?_
            refine lv_bipush (v := 10) hx hb dX8_pulling_53 (by decide) ?_
            skip
            refine zw_Vv (As := [.int 10]) (rest := []) (wr := [(mki, .inl (cI, 8, .inl gki)), (mpa, .inl (cI, 8, .inl gpa))]) ⟨hx, hb, hml, hown, hts⟩ (c_M_body l D cI cJ cZ cP cS po m0 mrf mki mpa mta mla msl mco mhe mso msi msh mce mca mwo mnu mte mwa mke mma mth mtr (npu) (nte) (nat_) (nde) (nto) (nse) (nhu) (nga) (nsd) (nfa) (nba) (npl) (nen) (nnu) (nwr) (q_23) (nik) q_24 (10) hy0 hy1 hy2 hy3 hy4 hy5 hy6 hy7 hy8 hy9 (by omega) (by omega) hy12 hy13 H.size) (cwV 1 hts gX8_pulling_X8_body rfl rfl rfl ⟨rfl, dh_X8_body⟩ ⟨Nat.le_of_ble_eq_true rfl, Nat.le_of_ble_eq_true rfl⟩) hK hN (hZ.kept hS) hP hD hS hA [2, 3] [0, 1] rfl rfl (by decide) (by decide) (by decide) (va_recv (q := (RX8, TX8, 38)) hK hP (ci := 8) (q0 := 2) rfl rfl) rfl hl.1 rfl (Nat.le_of_ble_eq_true rfl) dX8_pulling_55 ⟨Nat.le_of_ble_eq_true rfl, Nat.le_of_ble_eq_true rfl⟩ (fun u_26 H locs hr_25 hP hD hS => ?_)
            obtain ⟨q_27, q_28⟩ := u_26
            try dsimp only at hr_25
            obtain ⟨hbq_27, hr_25⟩ := hr_25
            have h9R := zRe (ws' := [(mki, .inl (cI, 8, .inl gki)), (mpa, .inl (cI, 8, .inl gpa)), (zMO m0 npu nte nat_ nde nto nse nhu nga nsd nfa mrf mki mpa mta mla msl mco mhe mso msi msh mce mca mwo mnu mte nba npl nen nnu nwr mwa mke mma mth mtr q_27 nik), (mtr, .inl (cI, 20, .inl q_28))]) hP hD rfl
            clear hP hD
            obtain ⟨hP, hD⟩ := h9R
            refine lv_iload_n hx hb dX8_pulling_58 rfl (lv_at hl 3 rfl) ?_
            refine lv_iload_n hx hb dX8_pulling_59 rfl (lv_at hl 2 rfl) ?_
            refine lv_iadd hx hb dX8_pulling_60 ?_
            refine lv_topi (fun x_29 ex_29 => ?_)
            refine lv_istore (lv' := [(4, .int x_29), (3, .int 1), (0, .ref m0), (1, .int p_), (2, .int x)]) hx hb dX8_pulling_61 hl (by decide) rfl (fun ls hl => ?_)
            refine lv_iload_n hx hb dX8_pulling_63 rfl (lv_at hl 1 rfl) ?_
            refine lv_iconst (v := 1) hx hb dX8_pulling_64 (by decide) ?_
            refine lv_icmp_eq (tgt := 73) hx hb dX8_pulling_65 (by decide) (fun c_30 => ?_) (fun c_30 => ?_)
            · refine lv_iload hx hb dX8_pulling_73 (lv_at hl 0 rfl) ?_
              refine lv_aload_n hx hb dX8_pulling_75 rfl (lv_at hl 2 rfl) ?_
              refine va_get (D := D) (ci := 8) (v := .ref mpa) (C := RX8) (T := TX8) (N := 38) hx hb hts hi_X8_pulling_8 hown hK hP 2 rfl rfl 12 (by decide) (hts (.fieldLink RX8 32 "TheLiningsInItModel" "part" "[I") (List.mem_of_getElem? (i := 2) rfl)) (fun _ h9 => h9) rfl dX8_pulling_76 ?_
              refine lv_iload_n hx hb dX8_pulling_79 rfl (lv_at hl 3 rfl) ?_
              refine va_iald hx hb hK hP 1 0 rfl rfl (zf_in (by omega) (by omega)) dX8_pulling_80 ?_
              refine lv_topi (fun x_31 ex_31 => ?_)
              have bx_31 : 0 ≤ x_31.toInt ∧ x_31.toInt ≤ 9 := by rw [ex_31]; exact hp_gpa _
              refine lv_iadd hx hb dX8_pulling_81 ?_
              refine lv_topi (fun x_32 ex_32 => ?_)
              refine lv_istore (lv' := [(4, .int x_32), (3, .int 1), (0, .ref m0), (1, .int p_), (2, .int x)]) hx hb dX8_pulling_82 hl (by decide) rfl (fun ls hl => ?_)
              refine lv_iload_n hx hb dX8_pulling_84 rfl (lv_at hl 1 rfl) ?_
              refine lv_iconst (v := 4) hx hb dX8_pulling_85 (by decide) ?_
              refine lv_icmp_eq (tgt := 95) hx hb dX8_pulling_86 (by decide) (fun c_33 => ?_) (fun c_33 => ?_)
              · exact absurd c_33 (by decide)
              · refine lv_iload_n hx hb dX8_pulling_89 rfl (lv_at hl 1 rfl) ?_
                refine lv_bipush (v := 6) hx hb dX8_pulling_90 (by decide) ?_
                refine lv_icmp_ne (tgt := 101) hx hb dX8_pulling_92 (by decide) (fun c_34 => ?_) (fun c_34 => ?_)
                · refine lv_iload_n hx hb dX8_pulling_101 rfl (lv_at hl 1 rfl) ?_
                  refine lv_bipush (v := 6) hx hb dX8_pulling_102 (by decide) ?_
                  refine lv_icmp_ne (tgt := 114) hx hb dX8_pulling_104 (by decide) (fun c_35 => ?_) (fun c_35 => ?_)
                  · refine lv_iload hx hb dX8_pulling_114 (lv_at hl 0 rfl) ?_
                    exact W.iret (v := x_32) hx hb hr (fun t ht hW => ⟨⟨x_32, (q_27, q_28), rfl, ⟨(show 0 ≤ q_27.toInt ∧ q_27.toInt ≤ 2000 from ⟨by omega, by omega⟩), (show q_27.toInt ≤ nra.toInt + 4 from by omega), trivial⟩, zRet ht hP hD [2, 0, 1, 3] (by decide) rfl⟩, hS.F ht⟩) hS.2.2 dX8_pulling_116
                  · exact absurd c_35 (by decide)
                · exact absurd c_34 (by decide)
            · exact absurd c_30 (by decide)
          · exact absurd c_20 (by decide)
        · exact absurd c_19 (by decide)
    · exact absurd c_17 (by decide)
  · have kc2 : (2 : Int32).toInt = 2 := by decide
    refine lv_iload_n hx hb dX8_pulling_7 rfl (lv_at hl 0 rfl) ?_
    refine lv_bipush (v := 6) hx hb dX8_pulling_8 (by decide) ?_
    refine lv_icmp_ne (tgt := 19) hx hb dX8_pulling_10 (by decide) (fun c_36 => ?_) (fun c_36 => ?_)
    · refine lv_iload_n hx hb dX8_pulling_19 rfl (lv_at hl 0 rfl) ?_
      refine lv_iconst (v := 4) hx hb dX8_pulling_20 (by decide) ?_
      refine lv_icmp_eq (tgt := 30) hx hb dX8_pulling_21 (by decide) (fun c_37 => ?_) (fun c_37 => ?_)
      · exact absurd c_37 (by decide)
      · refine lv_iload_n hx hb dX8_pulling_24 rfl (lv_at hl 0 rfl) ?_
        refine lv_bipush (v := 6) hx hb dX8_pulling_25 (by decide) ?_
        refine lv_icmp_ne (tgt := 36) hx hb dX8_pulling_27 (by decide) (fun c_38 => ?_) (fun c_38 => ?_)
        · refine lv_iload_n hx hb dX8_pulling_36 rfl (lv_at hl 0 rfl) ?_
          refine lv_iconst (v := 1) hx hb dX8_pulling_37 (by decide) ?_
          refine lv_icmp_eq (tgt := 46) hx hb dX8_pulling_38 (by decide) (fun c_39 => ?_) (fun c_39 => ?_)
          · exact absurd c_39 (by decide)
          · refine lv_iload_n hx hb dX8_pulling_41 rfl (lv_at hl 0 rfl) ?_
            refine lv_iconst (v := 3) hx hb dX8_pulling_42 (by decide) ?_
            refine lv_icmp_ne (tgt := 52) hx hb dX8_pulling_43 (by decide) (fun c_40 => ?_) (fun c_40 => ?_)
            · refine lv_aload_n hx hb dX8_pulling_52 rfl (lv_at hl 1 rfl) ?_
              refine lv_bipush (v := 10) hx hb dX8_pulling_53 (by decide) ?_
              skip
              refine zw_Vv (As := [.int 10]) (rest := []) (wr := [(mki, .inl (cI, 8, .inl gki)), (mpa, .inl (cI, 8, .inl gpa))]) ⟨hx, hb, hml, hown, hts⟩ (c_M_body l D cI cJ cZ cP cS po m0 mrf mki mpa mta mla msl mco mhe mso msi msh mce mca mwo mnu mte mwa mke mma mth mtr (npu) (nte) (nat_) (nde) (nto) (nse) (nhu) (nga) (nsd) (nfa) (nba) (npl) (nen) (nnu) (nwr) (nra) (nik) gtr (10) hy0 hy1 hy2 hy3 hy4 hy5 hy6 hy7 hy8 hy9 hy10 hy11 hy12 hy13 H.size) (cwV 1 hts gX8_pulling_X8_body rfl rfl rfl ⟨rfl, dh_X8_body⟩ ⟨Nat.le_of_ble_eq_true rfl, Nat.le_of_ble_eq_true rfl⟩) hK hN (hZ.kept hS) hP hD hS hA [0, 3] [1, 2] rfl rfl (by decide) (by decide) (by decide) (va_recv (q := (RX8, TX8, 38)) hK hP (ci := 8) (q0 := 0) rfl rfl) rfl hl.1 rfl (Nat.le_of_ble_eq_true rfl) dX8_pulling_55 ⟨Nat.le_of_ble_eq_true rfl, Nat.le_of_ble_eq_true rfl⟩ (fun u_42 H locs hr_41 hP hD hS => ?_)
              obtain ⟨q_43, q_44⟩ := u_42
              try dsimp only at hr_41
              obtain ⟨hbq_43, hr_41⟩ := hr_41
              have h9R := zRe (ws' := [(mki, .inl (cI, 8, .inl gki)), (mpa, .inl (cI, 8, .inl gpa)), (zMO m0 npu nte nat_ nde nto nse nhu nga nsd nfa mrf mki mpa mta mla msl mco mhe mso msi msh mce mca mwo mnu mte nba npl nen nnu nwr mwa mke mma mth mtr q_43 nik), (mtr, .inl (cI, 20, .inl q_44))]) hP hD rfl
              clear hP hD
              obtain ⟨hP, hD⟩ := h9R
              refine lv_iload_n hx hb dX8_pulling_58 rfl (lv_at hl 3 rfl) ?_
              refine lv_iload_n hx hb dX8_pulling_59 rfl (lv_at hl 2 rfl) ?_
              refine lv_iadd hx hb dX8_pulling_60 ?_
              refine lv_topi (fun x_45 ex_45 => ?_)
              refine lv_istore (lv' := [(4, .int x_45), (3, .int 2), (0, .ref m0), (1, .int p_), (2, .int x)]) hx hb dX8_pulling_61 hl (by decide) rfl (fun ls hl => ?_)
              refine lv_iload_n hx hb dX8_pulling_63 rfl (lv_at hl 1 rfl) ?_
              refine lv_iconst (v := 1) hx hb dX8_pulling_64 (by decide) ?_
              refine lv_icmp_eq (tgt := 73) hx hb dX8_pulling_65 (by decide) (fun c_46 => ?_) (fun c_46 => ?_)
              · exact absurd c_46 (by decide)
              · refine lv_iload_n hx hb dX8_pulling_68 rfl (lv_at hl 1 rfl) ?_
                refine lv_iconst (v := 3) hx hb dX8_pulling_69 (by decide) ?_
                refine lv_icmp_ne (tgt := 84) hx hb dX8_pulling_70 (by decide) (fun c_47 => ?_) (fun c_47 => ?_)
                · refine lv_iload_n hx hb dX8_pulling_84 rfl (lv_at hl 1 rfl) ?_
                  refine lv_iconst (v := 4) hx hb dX8_pulling_85 (by decide) ?_
                  refine lv_icmp_eq (tgt := 95) hx hb dX8_pulling_86 (by decide) (fun c_48 => ?_) (fun c_48 => ?_)
                  · exact absurd c_48 (by decide)
                  · refine lv_iload_n hx hb dX8_pulling_89 rfl (lv_at hl 1 rfl) ?_
                    refine lv_bipush (v := 6) hx hb dX8_pulling_90 (by decide) ?_
                    refine lv_icmp_ne (tgt := 101) hx hb dX8_pulling_92 (by decide) (fun c_49 => ?_) (fun c_49 => ?_)
                    · refine lv_iload_n hx hb dX8_pulling_101 rfl (lv_at hl 1 rfl) ?_
                      refine lv_bipush (v := 6) hx hb dX8_pulling_102 (by decide) ?_
                      refine lv_icmp_ne (tgt := 114) hx hb dX8_pulling_104 (by decide) (fun c_50 => ?_) (fun c_50 => ?_)
                      · refine lv_iload hx hb dX8_pulling_114 (lv_at hl 0 rfl) ?_
                        exact W.iret (v := x_45) hx hb hr (fun t ht hW => ⟨⟨x_45, (q_43, q_44), rfl, ⟨(show 0 ≤ q_43.toInt ∧ q_43.toInt ≤ 2000 from ⟨by omega, by omega⟩), (show q_43.toInt ≤ nra.toInt + 4 from by omega), trivial⟩, zRet ht hP hD [2, 0, 1, 3] (by decide) rfl⟩, hS.F ht⟩) hS.2.2 dX8_pulling_116
                      · exact absurd c_50 (by decide)
                    · exact absurd c_49 (by decide)
                · exact absurd c_47 (by decide)
            · exact absurd c_40 (by decide)
        · exact absurd c_38 (by decide)
    · exact absurd c_36 (by decide)
  · have kc3 : (3 : Int32).toInt = 3 := by decide
    refine lv_iload_n hx hb dX8_pulling_7 rfl (lv_at hl 0 rfl) ?_
    refine lv_bipush (v := 6) hx hb dX8_pulling_8 (by decide) ?_
    refine lv_icmp_ne (tgt := 19) hx hb dX8_pulling_10 (by decide) (fun c_51 => ?_) (fun c_51 => ?_)
    · refine lv_iload_n hx hb dX8_pulling_19 rfl (lv_at hl 0 rfl) ?_
      refine lv_iconst (v := 4) hx hb dX8_pulling_20 (by decide) ?_
      refine lv_icmp_eq (tgt := 30) hx hb dX8_pulling_21 (by decide) (fun c_52 => ?_) (fun c_52 => ?_)
      · exact absurd c_52 (by decide)
      · refine lv_iload_n hx hb dX8_pulling_24 rfl (lv_at hl 0 rfl) ?_
        refine lv_bipush (v := 6) hx hb dX8_pulling_25 (by decide) ?_
        refine lv_icmp_ne (tgt := 36) hx hb dX8_pulling_27 (by decide) (fun c_53 => ?_) (fun c_53 => ?_)
        · refine lv_iload_n hx hb dX8_pulling_36 rfl (lv_at hl 0 rfl) ?_
          refine lv_iconst (v := 1) hx hb dX8_pulling_37 (by decide) ?_
          refine lv_icmp_eq (tgt := 46) hx hb dX8_pulling_38 (by decide) (fun c_54 => ?_) (fun c_54 => ?_)
          · exact absurd c_54 (by decide)
          · refine lv_iload_n hx hb dX8_pulling_41 rfl (lv_at hl 0 rfl) ?_
            refine lv_iconst (v := 3) hx hb dX8_pulling_42 (by decide) ?_
            refine lv_icmp_ne (tgt := 52) hx hb dX8_pulling_43 (by decide) (fun c_55 => ?_) (fun c_55 => ?_)
            · exact absurd c_55 (by decide)
            · refine lv_aload_n hx hb dX8_pulling_46 rfl (lv_at hl 1 rfl) ?_
              refine lv_bipush (v := 20) hx hb dX8_pulling_47 (by decide) ?_
              skip
              refine zw_Vv (As := [.int 20]) (rest := []) (wr := [(mki, .inl (cI, 8, .inl gki)), (mpa, .inl (cI, 8, .inl gpa))]) ⟨hx, hb, hml, hown, hts⟩ (c_M_body l D cI cJ cZ cP cS po m0 mrf mki mpa mta mla msl mco mhe mso msi msh mce mca mwo mnu mte mwa mke mma mth mtr (npu) (nte) (nat_) (nde) (nto) (nse) (nhu) (nga) (nsd) (nfa) (nba) (npl) (nen) (nnu) (nwr) (nra) (nik) gtr (20) hy0 hy1 hy2 hy3 hy4 hy5 hy6 hy7 hy8 hy9 hy10 hy11 hy12 hy13 H.size) (cwV 1 hts gX8_pulling_X8_body rfl rfl rfl ⟨rfl, dh_X8_body⟩ ⟨Nat.le_of_ble_eq_true rfl, Nat.le_of_ble_eq_true rfl⟩) hK hN (hZ.kept hS) hP hD hS hA [0, 3] [1, 2] rfl rfl (by decide) (by decide) (by decide) (va_recv (q := (RX8, TX8, 38)) hK hP (ci := 8) (q0 := 0) rfl rfl) rfl hl.1 rfl (Nat.le_of_ble_eq_true rfl) dX8_pulling_49 ⟨Nat.le_of_ble_eq_true rfl, Nat.le_of_ble_eq_true rfl⟩ (fun u_57 H locs hr_56 hP hD hS => ?_)
              obtain ⟨q_58, q_59⟩ := u_57
              try dsimp only at hr_56
              obtain ⟨hbq_58, hr_56⟩ := hr_56
              have h9R := zRe (ws' := [(mki, .inl (cI, 8, .inl gki)), (mpa, .inl (cI, 8, .inl gpa)), (zMO m0 npu nte nat_ nde nto nse nhu nga nsd nfa mrf mki mpa mta mla msl mco mhe mso msi msh mce mca mwo mnu mte nba npl nen nnu nwr mwa mke mma mth mtr q_58 nik), (mtr, .inl (cI, 20, .inl q_59))]) hP hD rfl
              clear hP hD
              obtain ⟨hP, hD⟩ := h9R
              refine lv_aload_n hx hb dX8_pulling_52 rfl (lv_at hl 1 rfl) ?_
              refine lv_bipush (v := 10) hx hb dX8_pulling_53 (by decide) ?_
              skip
              refine zw_Vv (As := [.int 10]) (rest := []) (wr := [(mki, .inl (cI, 8, .inl gki)), (mpa, .inl (cI, 8, .inl gpa))]) ⟨hx, hb, hml, hown, hts⟩ (c_M_body l D cI cJ cZ cP cS po m0 mrf mki mpa mta mla msl mco mhe mso msi msh mce mca mwo mnu mte mwa mke mma mth mtr (npu) (nte) (nat_) (nde) (nto) (nse) (nhu) (nga) (nsd) (nfa) (nba) (npl) (nen) (nnu) (nwr) (q_58) (nik) q_59 (10) hy0 hy1 hy2 hy3 hy4 hy5 hy6 hy7 hy8 hy9 (by omega) (by omega) hy12 hy13 H.size) (cwV 1 hts gX8_pulling_X8_body rfl rfl rfl ⟨rfl, dh_X8_body⟩ ⟨Nat.le_of_ble_eq_true rfl, Nat.le_of_ble_eq_true rfl⟩) hK hN (hZ.kept hS) hP hD hS hA [2, 3] [0, 1] rfl rfl (by decide) (by decide) (by decide) (va_recv (q := (RX8, TX8, 38)) hK hP (ci := 8) (q0 := 2) rfl rfl) rfl hl.1 rfl (Nat.le_of_ble_eq_true rfl) dX8_pulling_55 ⟨Nat.le_of_ble_eq_true rfl, Nat.le_of_ble_eq_true rfl⟩ (fun u_61 H locs hr_60 hP hD hS => ?_)
              obtain ⟨q_62, q_63⟩ := u_61
              try dsimp only at hr_60
              obtain ⟨hbq_62, hr_60⟩ := hr_60
              have h9R := zRe (ws' := [(mki, .inl (cI, 8, .inl gki)), (mpa, .inl (cI, 8, .inl gpa)), (zMO m0 npu nte nat_ nde nto nse nhu nga nsd nfa mrf mki mpa mta mla msl mco mhe mso msi msh mce mca mwo mnu mte nba npl nen nnu nwr mwa mke mma mth mtr q_62 nik), (mtr, .inl (cI, 20, .inl q_63))]) hP hD rfl
              clear hP hD
              obtain ⟨hP, hD⟩ := h9R
              refine lv_iload_n hx hb dX8_pulling_58 rfl (lv_at hl 3 rfl) ?_
              refine lv_iload_n hx hb dX8_pulling_59 rfl (lv_at hl 2 rfl) ?_
              refine lv_iadd hx hb dX8_pulling_60 ?_
              refine lv_topi (fun x_64 ex_64 => ?_)
              refine lv_istore (lv' := [(4, .int x_64), (3, .int 3), (0, .ref m0), (1, .int p_), (2, .int x)]) hx hb dX8_pulling_61 hl (by decide) rfl (fun ls hl => ?_)
              refine lv_iload_n hx hb dX8_pulling_63 rfl (lv_at hl 1 rfl) ?_
              refine lv_iconst (v := 1) hx hb dX8_pulling_64 (by decide) ?_
              refine lv_icmp_eq (tgt := 73) hx hb dX8_pulling_65 (by decide) (fun c_65 => ?_) (fun c_65 => ?_)
              · exact absurd c_65 (by decide)
              · refine lv_iload_n hx hb dX8_pulling_68 rfl (lv_at hl 1 rfl) ?_
                refine lv_iconst (v := 3) hx hb dX8_pulling_69 (by decide) ?_
                refine lv_icmp_ne (tgt := 84) hx hb dX8_pulling_70 (by decide) (fun c_66 => ?_) (fun c_66 => ?_)
                · exact absurd c_66 (by decide)
                · refine lv_iload hx hb dX8_pulling_73 (lv_at hl 0 rfl) ?_
                  refine lv_aload_n hx hb dX8_pulling_75 rfl (lv_at hl 2 rfl) ?_
                  refine va_get (D := D) (ci := 8) (v := .ref mpa) (C := RX8) (T := TX8) (N := 38) hx hb hts hi_X8_pulling_8 hown hK hP 2 rfl rfl 12 (by decide) (hts (.fieldLink RX8 32 "TheLiningsInItModel" "part" "[I") (List.mem_of_getElem? (i := 2) rfl)) (fun _ h9 => h9) rfl dX8_pulling_76 ?_
                  refine lv_iload_n hx hb dX8_pulling_79 rfl (lv_at hl 3 rfl) ?_
                  refine va_iald hx hb hK hP 1 0 rfl rfl (zf_in (by omega) (by omega)) dX8_pulling_80 ?_
                  refine lv_topi (fun x_67 ex_67 => ?_)
                  have bx_67 : 0 ≤ x_67.toInt ∧ x_67.toInt ≤ 9 := by rw [ex_67]; exact hp_gpa _
                  refine lv_iadd hx hb dX8_pulling_81 ?_
                  refine lv_topi (fun x_68 ex_68 => ?_)
                  refine lv_istore (lv' := [(4, .int x_68), (3, .int 3), (0, .ref m0), (1, .int p_), (2, .int x)]) hx hb dX8_pulling_82 hl (by decide) rfl (fun ls hl => ?_)
                  refine lv_iload_n hx hb dX8_pulling_84 rfl (lv_at hl 1 rfl) ?_
                  refine lv_iconst (v := 4) hx hb dX8_pulling_85 (by decide) ?_
                  refine lv_icmp_eq (tgt := 95) hx hb dX8_pulling_86 (by decide) (fun c_69 => ?_) (fun c_69 => ?_)
                  · exact absurd c_69 (by decide)
                  · refine lv_iload_n hx hb dX8_pulling_89 rfl (lv_at hl 1 rfl) ?_
                    refine lv_bipush (v := 6) hx hb dX8_pulling_90 (by decide) ?_
                    refine lv_icmp_ne (tgt := 101) hx hb dX8_pulling_92 (by decide) (fun c_70 => ?_) (fun c_70 => ?_)
                    · refine lv_iload_n hx hb dX8_pulling_101 rfl (lv_at hl 1 rfl) ?_
                      refine lv_bipush (v := 6) hx hb dX8_pulling_102 (by decide) ?_
                      refine lv_icmp_ne (tgt := 114) hx hb dX8_pulling_104 (by decide) (fun c_71 => ?_) (fun c_71 => ?_)
                      · refine lv_iload hx hb dX8_pulling_114 (lv_at hl 0 rfl) ?_
                        exact W.iret (v := x_68) hx hb hr (fun t ht hW => ⟨⟨x_68, (q_62, q_63), rfl, ⟨(show 0 ≤ q_62.toInt ∧ q_62.toInt ≤ 2000 from ⟨by omega, by omega⟩), (show q_62.toInt ≤ nra.toInt + 4 from by omega), trivial⟩, zRet ht hP hD [2, 0, 1, 3] (by decide) rfl⟩, hS.F ht⟩) hS.2.2 dX8_pulling_116
                      · exact absurd c_71 (by decide)
                    · exact absurd c_70 (by decide)
        · exact absurd c_53 (by decide)
    · exact absurd c_51 (by decide)
  · have kc4 : (4 : Int32).toInt = 4 := by decide
    refine lv_iload_n hx hb dX8_pulling_7 rfl (lv_at hl 0 rfl) ?_
    refine lv_bipush (v := 6) hx hb dX8_pulling_8 (by decide) ?_
    refine lv_icmp_ne (tgt := 19) hx hb dX8_pulling_10 (by decide) (fun c_72 => ?_) (fun c_72 => ?_)
    · refine lv_iload_n hx hb dX8_pulling_19 rfl (lv_at hl 0 rfl) ?_
      refine lv_iconst (v := 4) hx hb dX8_pulling_20 (by decide) ?_
      refine lv_icmp_eq (tgt := 30) hx hb dX8_pulling_21 (by decide) (fun c_73 => ?_) (fun c_73 => ?_)
      · refine lv_aload_n hx hb dX8_pulling_30 rfl (lv_at hl 1 rfl) ?_
        refine lv_bipush (v := 51) hx hb dX8_pulling_31 (by decide) ?_
        skip
        refine zw_Vv (As := [.int 51]) (rest := []) (wr := [(mki, .inl (cI, 8, .inl gki)), (mpa, .inl (cI, 8, .inl gpa))]) ⟨hx, hb, hml, hown, hts⟩ (c_M_body l D cI cJ cZ cP cS po m0 mrf mki mpa mta mla msl mco mhe mso msi msh mce mca mwo mnu mte mwa mke mma mth mtr (npu) (nte) (nat_) (nde) (nto) (nse) (nhu) (nga) (nsd) (nfa) (nba) (npl) (nen) (nnu) (nwr) (nra) (nik) gtr (51) hy0 hy1 hy2 hy3 hy4 hy5 hy6 hy7 hy8 hy9 hy10 hy11 hy12 hy13 H.size) (cwV 1 hts gX8_pulling_X8_body rfl rfl rfl ⟨rfl, dh_X8_body⟩ ⟨Nat.le_of_ble_eq_true rfl, Nat.le_of_ble_eq_true rfl⟩) hK hN (hZ.kept hS) hP hD hS hA [0, 3] [1, 2] rfl rfl (by decide) (by decide) (by decide) (va_recv (q := (RX8, TX8, 38)) hK hP (ci := 8) (q0 := 0) rfl rfl) rfl hl.1 rfl (Nat.le_of_ble_eq_true rfl) dX8_pulling_33 ⟨Nat.le_of_ble_eq_true rfl, Nat.le_of_ble_eq_true rfl⟩ (fun u_75 H locs hr_74 hP hD hS => ?_)
        obtain ⟨q_76, q_77⟩ := u_75
        try dsimp only at hr_74
        obtain ⟨hbq_76, hr_74⟩ := hr_74
        have h9R := zRe (ws' := [(mki, .inl (cI, 8, .inl gki)), (mpa, .inl (cI, 8, .inl gpa)), (zMO m0 npu nte nat_ nde nto nse nhu nga nsd nfa mrf mki mpa mta mla msl mco mhe mso msi msh mce mca mwo mnu mte nba npl nen nnu nwr mwa mke mma mth mtr q_76 nik), (mtr, .inl (cI, 20, .inl q_77))]) hP hD rfl
        clear hP hD
        obtain ⟨hP, hD⟩ := h9R
        refine lv_iload_n hx hb dX8_pulling_36 rfl (lv_at hl 0 rfl) ?_
        refine lv_iconst (v := 1) hx hb dX8_pulling_37 (by decide) ?_
        refine lv_icmp_eq (tgt := 46) hx hb dX8_pulling_38 (by decide) (fun c_78 => ?_) (fun c_78 => ?_)
        · exact absurd c_78 (by decide)
        · refine lv_iload_n hx hb dX8_pulling_41 rfl (lv_at hl 0 rfl) ?_
          refine lv_iconst (v := 3) hx hb dX8_pulling_42 (by decide) ?_
          refine lv_icmp_ne (tgt := 52) hx hb dX8_pulling_43 (by decide) (fun c_79 => ?_) (fun c_79 => ?_)
          · refine lv_aload_n hx hb dX8_pulling_52 rfl (lv_at hl 1 rfl) ?_
            refine lv_bipush (v := 10) hx hb dX8_pulling_53 (by decide) ?_
            skip
            refine zw_Vv (As := [.int 10]) (rest := []) (wr := [(mki, .inl (cI, 8, .inl gki)), (mpa, .inl (cI, 8, .inl gpa))]) ⟨hx, hb, hml, hown, hts⟩ (c_M_body l D cI cJ cZ cP cS po m0 mrf mki mpa mta mla msl mco mhe mso msi msh mce mca mwo mnu mte mwa mke mma mth mtr (npu) (nte) (nat_) (nde) (nto) (nse) (nhu) (nga) (nsd) (nfa) (nba) (npl) (nen) (nnu) (nwr) (q_76) (nik) q_77 (10) hy0 hy1 hy2 hy3 hy4 hy5 hy6 hy7 hy8 hy9 (by omega) (by omega) hy12 hy13 H.size) (cwV 1 hts gX8_pulling_X8_body rfl rfl rfl ⟨rfl, dh_X8_body⟩ ⟨Nat.le_of_ble_eq_true rfl, Nat.le_of_ble_eq_true rfl⟩) hK hN (hZ.kept hS) hP hD hS hA [2, 3] [0, 1] rfl rfl (by decide) (by decide) (by decide) (va_recv (q := (RX8, TX8, 38)) hK hP (ci := 8) (q0 := 2) rfl rfl) rfl hl.1 rfl (Nat.le_of_ble_eq_true rfl) dX8_pulling_55 ⟨Nat.le_of_ble_eq_true rfl, Nat.le_of_ble_eq_true rfl⟩ (fun u_81 H locs hr_80 hP hD hS => ?_)
            obtain ⟨q_82, q_83⟩ := u_81
            try dsimp only at hr_80
            obtain ⟨hbq_82, hr_80⟩ := hr_80
            have h9R := zRe (ws' := [(mki, .inl (cI, 8, .inl gki)), (mpa, .inl (cI, 8, .inl gpa)), (zMO m0 npu nte nat_ nde nto nse nhu nga nsd nfa mrf mki mpa mta mla msl mco mhe mso msi msh mce mca mwo mnu mte nba npl nen nnu nwr mwa mke mma mth mtr q_82 nik), (mtr, .inl (cI, 20, .inl q_83))]) hP hD rfl
            clear hP hD
            obtain ⟨hP, hD⟩ := h9R
            refine lv_iload_n hx hb dX8_pulling_58 rfl (lv_at hl 3 rfl) ?_
            refine lv_iload_n hx hb dX8_pulling_59 rfl (lv_at hl 2 rfl) ?_
            refine lv_iadd hx hb dX8_pulling_60 ?_
            refine lv_topi (fun x_84 ex_84 => ?_)
            refine lv_istore (lv' := [(4, .int x_84), (3, .int 4), (0, .ref m0), (1, .int p_), (2, .int x)]) hx hb dX8_pulling_61 hl (by decide) rfl (fun ls hl => ?_)
            refine lv_iload_n hx hb dX8_pulling_63 rfl (lv_at hl 1 rfl) ?_
            refine lv_iconst (v := 1) hx hb dX8_pulling_64 (by decide) ?_
            refine lv_icmp_eq (tgt := 73) hx hb dX8_pulling_65 (by decide) (fun c_85 => ?_) (fun c_85 => ?_)
            · exact absurd c_85 (by decide)
            · refine lv_iload_n hx hb dX8_pulling_68 rfl (lv_at hl 1 rfl) ?_
              refine lv_iconst (v := 3) hx hb dX8_pulling_69 (by decide) ?_
              refine lv_icmp_ne (tgt := 84) hx hb dX8_pulling_70 (by decide) (fun c_86 => ?_) (fun c_86 => ?_)
              · refine lv_iload_n hx hb dX8_pulling_84 rfl (lv_at hl 1 rfl) ?_
                refine lv_iconst (v := 4) hx hb dX8_pulling_85 (by decide) ?_
                refine lv_icmp_eq (tgt := 95) hx hb dX8_pulling_86 (by decide) (fun c_87 => ?_) (fun c_87 => ?_)
                · refine lv_iload hx hb dX8_pulling_95 (lv_at hl 0 rfl) ?_
                  refine lv_iload_n hx hb dX8_pulling_97 rfl (lv_at hl 3 rfl) ?_
                  refine lv_isub hx hb dX8_pulling_98 ?_
                  refine lv_topi (fun x_88 ex_88 => ?_)
                  refine lv_istore (lv' := [(4, .int x_88), (3, .int 4), (0, .ref m0), (1, .int p_), (2, .int x)]) hx hb dX8_pulling_99 hl (by decide) rfl (fun ls hl => ?_)
                  refine lv_iload_n hx hb dX8_pulling_101 rfl (lv_at hl 1 rfl) ?_
                  refine lv_bipush (v := 6) hx hb dX8_pulling_102 (by decide) ?_
                  refine lv_icmp_ne (tgt := 114) hx hb dX8_pulling_104 (by decide) (fun c_89 => ?_) (fun c_89 => ?_)
                  · refine lv_iload hx hb dX8_pulling_114 (lv_at hl 0 rfl) ?_
                    exact W.iret (v := x_88) hx hb hr (fun t ht hW => ⟨⟨x_88, (q_82, q_83), rfl, ⟨(show 0 ≤ q_82.toInt ∧ q_82.toInt ≤ 2000 from ⟨by omega, by omega⟩), (show q_82.toInt ≤ nra.toInt + 4 from by omega), trivial⟩, zRet ht hP hD [2, 0, 1, 3] (by decide) rfl⟩, hS.F ht⟩) hS.2.2 dX8_pulling_116
                  · exact absurd c_89 (by decide)
                · exact absurd c_87 (by decide)
              · exact absurd c_86 (by decide)
          · exact absurd c_79 (by decide)
      · exact absurd c_73 (by decide)
    · exact absurd c_72 (by decide)
  · have kc5 : (5 : Int32).toInt = 5 := by decide
    refine lv_iload_n hx hb dX8_pulling_7 rfl (lv_at hl 0 rfl) ?_
    refine lv_bipush (v := 6) hx hb dX8_pulling_8 (by decide) ?_
    refine lv_icmp_ne (tgt := 19) hx hb dX8_pulling_10 (by decide) (fun c_90 => ?_) (fun c_90 => ?_)
    · refine lv_iload_n hx hb dX8_pulling_19 rfl (lv_at hl 0 rfl) ?_
      refine lv_iconst (v := 4) hx hb dX8_pulling_20 (by decide) ?_
      refine lv_icmp_eq (tgt := 30) hx hb dX8_pulling_21 (by decide) (fun c_91 => ?_) (fun c_91 => ?_)
      · exact absurd c_91 (by decide)
      · refine lv_iload_n hx hb dX8_pulling_24 rfl (lv_at hl 0 rfl) ?_
        refine lv_bipush (v := 6) hx hb dX8_pulling_25 (by decide) ?_
        refine lv_icmp_ne (tgt := 36) hx hb dX8_pulling_27 (by decide) (fun c_92 => ?_) (fun c_92 => ?_)
        · refine lv_iload_n hx hb dX8_pulling_36 rfl (lv_at hl 0 rfl) ?_
          refine lv_iconst (v := 1) hx hb dX8_pulling_37 (by decide) ?_
          refine lv_icmp_eq (tgt := 46) hx hb dX8_pulling_38 (by decide) (fun c_93 => ?_) (fun c_93 => ?_)
          · exact absurd c_93 (by decide)
          · refine lv_iload_n hx hb dX8_pulling_41 rfl (lv_at hl 0 rfl) ?_
            refine lv_iconst (v := 3) hx hb dX8_pulling_42 (by decide) ?_
            refine lv_icmp_ne (tgt := 52) hx hb dX8_pulling_43 (by decide) (fun c_94 => ?_) (fun c_94 => ?_)
            · refine lv_aload_n hx hb dX8_pulling_52 rfl (lv_at hl 1 rfl) ?_
              refine lv_bipush (v := 10) hx hb dX8_pulling_53 (by decide) ?_
              skip
              refine zw_Vv (As := [.int 10]) (rest := []) (wr := [(mki, .inl (cI, 8, .inl gki)), (mpa, .inl (cI, 8, .inl gpa))]) ⟨hx, hb, hml, hown, hts⟩ (c_M_body l D cI cJ cZ cP cS po m0 mrf mki mpa mta mla msl mco mhe mso msi msh mce mca mwo mnu mte mwa mke mma mth mtr (npu) (nte) (nat_) (nde) (nto) (nse) (nhu) (nga) (nsd) (nfa) (nba) (npl) (nen) (nnu) (nwr) (nra) (nik) gtr (10) hy0 hy1 hy2 hy3 hy4 hy5 hy6 hy7 hy8 hy9 hy10 hy11 hy12 hy13 H.size) (cwV 1 hts gX8_pulling_X8_body rfl rfl rfl ⟨rfl, dh_X8_body⟩ ⟨Nat.le_of_ble_eq_true rfl, Nat.le_of_ble_eq_true rfl⟩) hK hN (hZ.kept hS) hP hD hS hA [0, 3] [1, 2] rfl rfl (by decide) (by decide) (by decide) (va_recv (q := (RX8, TX8, 38)) hK hP (ci := 8) (q0 := 0) rfl rfl) rfl hl.1 rfl (Nat.le_of_ble_eq_true rfl) dX8_pulling_55 ⟨Nat.le_of_ble_eq_true rfl, Nat.le_of_ble_eq_true rfl⟩ (fun u_96 H locs hr_95 hP hD hS => ?_)
              obtain ⟨q_97, q_98⟩ := u_96
              try dsimp only at hr_95
              obtain ⟨hbq_97, hr_95⟩ := hr_95
              have h9R := zRe (ws' := [(mki, .inl (cI, 8, .inl gki)), (mpa, .inl (cI, 8, .inl gpa)), (zMO m0 npu nte nat_ nde nto nse nhu nga nsd nfa mrf mki mpa mta mla msl mco mhe mso msi msh mce mca mwo mnu mte nba npl nen nnu nwr mwa mke mma mth mtr q_97 nik), (mtr, .inl (cI, 20, .inl q_98))]) hP hD rfl
              clear hP hD
              obtain ⟨hP, hD⟩ := h9R
              refine lv_iload_n hx hb dX8_pulling_58 rfl (lv_at hl 3 rfl) ?_
              refine lv_iload_n hx hb dX8_pulling_59 rfl (lv_at hl 2 rfl) ?_
              refine lv_iadd hx hb dX8_pulling_60 ?_
              refine lv_topi (fun x_99 ex_99 => ?_)
              refine lv_istore (lv' := [(4, .int x_99), (3, .int 5), (0, .ref m0), (1, .int p_), (2, .int x)]) hx hb dX8_pulling_61 hl (by decide) rfl (fun ls hl => ?_)
              refine lv_iload_n hx hb dX8_pulling_63 rfl (lv_at hl 1 rfl) ?_
              refine lv_iconst (v := 1) hx hb dX8_pulling_64 (by decide) ?_
              refine lv_icmp_eq (tgt := 73) hx hb dX8_pulling_65 (by decide) (fun c_100 => ?_) (fun c_100 => ?_)
              · exact absurd c_100 (by decide)
              · refine lv_iload_n hx hb dX8_pulling_68 rfl (lv_at hl 1 rfl) ?_
                refine lv_iconst (v := 3) hx hb dX8_pulling_69 (by decide) ?_
                refine lv_icmp_ne (tgt := 84) hx hb dX8_pulling_70 (by decide) (fun c_101 => ?_) (fun c_101 => ?_)
                · refine lv_iload_n hx hb dX8_pulling_84 rfl (lv_at hl 1 rfl) ?_
                  refine lv_iconst (v := 4) hx hb dX8_pulling_85 (by decide) ?_
                  refine lv_icmp_eq (tgt := 95) hx hb dX8_pulling_86 (by decide) (fun c_102 => ?_) (fun c_102 => ?_)
                  · exact absurd c_102 (by decide)
                  · refine lv_iload_n hx hb dX8_pulling_89 rfl (lv_at hl 1 rfl) ?_
                    refine lv_bipush (v := 6) hx hb dX8_pulling_90 (by decide) ?_
                    refine lv_icmp_ne (tgt := 101) hx hb dX8_pulling_92 (by decide) (fun c_103 => ?_) (fun c_103 => ?_)
                    · refine lv_iload_n hx hb dX8_pulling_101 rfl (lv_at hl 1 rfl) ?_
                      refine lv_bipush (v := 6) hx hb dX8_pulling_102 (by decide) ?_
                      refine lv_icmp_ne (tgt := 114) hx hb dX8_pulling_104 (by decide) (fun c_104 => ?_) (fun c_104 => ?_)
                      · refine lv_iload hx hb dX8_pulling_114 (lv_at hl 0 rfl) ?_
                        exact W.iret (v := x_99) hx hb hr (fun t ht hW => ⟨⟨x_99, (q_97, q_98), rfl, ⟨(show 0 ≤ q_97.toInt ∧ q_97.toInt ≤ 2000 from ⟨by omega, by omega⟩), (show q_97.toInt ≤ nra.toInt + 4 from by omega), trivial⟩, zRet ht hP hD [2, 0, 1, 3] (by decide) rfl⟩, hS.F ht⟩) hS.2.2 dX8_pulling_116
                      · exact absurd c_104 (by decide)
                    · exact absurd c_103 (by decide)
                · exact absurd c_101 (by decide)
            · exact absurd c_94 (by decide)
        · exact absurd c_92 (by decide)
    · exact absurd c_90 (by decide)
  · have kc6 : (6 : Int32).toInt = 6 := by decide
    refine lv_iload_n hx hb dX8_pulling_7 rfl (lv_at hl 0 rfl) ?_
    refine lv_bipush (v := 6) hx hb dX8_pulling_8 (by decide) ?_
    refine lv_icmp_ne (tgt := 19) hx hb dX8_pulling_10 (by decide) (fun c_105 => ?_) (fun c_105 => ?_)
    · exact absurd c_105 (by decide)
    · refine lv_aload_n hx hb dX8_pulling_13 rfl (lv_at hl 1 rfl) ?_
      refine lv_bipush (v := 70) hx hb dX8_pulling_14 (by decide) ?_
      skip
      refine zw_Vv (As := [.int 70]) (rest := []) (wr := [(mki, .inl (cI, 8, .inl gki)), (mpa, .inl (cI, 8, .inl gpa))]) ⟨hx, hb, hml, hown, hts⟩ (c_M_body l D cI cJ cZ cP cS po m0 mrf mki mpa mta mla msl mco mhe mso msi msh mce mca mwo mnu mte mwa mke mma mth mtr (npu) (nte) (nat_) (nde) (nto) (nse) (nhu) (nga) (nsd) (nfa) (nba) (npl) (nen) (nnu) (nwr) (nra) (nik) gtr (70) hy0 hy1 hy2 hy3 hy4 hy5 hy6 hy7 hy8 hy9 hy10 hy11 hy12 hy13 H.size) (cwV 1 hts gX8_pulling_X8_body rfl rfl rfl ⟨rfl, dh_X8_body⟩ ⟨Nat.le_of_ble_eq_true rfl, Nat.le_of_ble_eq_true rfl⟩) hK hN (hZ.kept hS) hP hD hS hA [0, 3] [1, 2] rfl rfl (by decide) (by decide) (by decide) (va_recv (q := (RX8, TX8, 38)) hK hP (ci := 8) (q0 := 0) rfl rfl) rfl hl.1 rfl (Nat.le_of_ble_eq_true rfl) dX8_pulling_16 ⟨Nat.le_of_ble_eq_true rfl, Nat.le_of_ble_eq_true rfl⟩ (fun u_107 H locs hr_106 hP hD hS => ?_)
      obtain ⟨q_108, q_109⟩ := u_107
      try dsimp only at hr_106
      obtain ⟨hbq_108, hr_106⟩ := hr_106
      have h9R := zRe (ws' := [(mki, .inl (cI, 8, .inl gki)), (mpa, .inl (cI, 8, .inl gpa)), (zMO m0 npu nte nat_ nde nto nse nhu nga nsd nfa mrf mki mpa mta mla msl mco mhe mso msi msh mce mca mwo mnu mte nba npl nen nnu nwr mwa mke mma mth mtr q_108 nik), (mtr, .inl (cI, 20, .inl q_109))]) hP hD rfl
      clear hP hD
      obtain ⟨hP, hD⟩ := h9R
      refine lv_iload_n hx hb dX8_pulling_19 rfl (lv_at hl 0 rfl) ?_
      refine lv_iconst (v := 4) hx hb dX8_pulling_20 (by decide) ?_
      refine lv_icmp_eq (tgt := 30) hx hb dX8_pulling_21 (by decide) (fun c_110 => ?_) (fun c_110 => ?_)
      · exact absurd c_110 (by decide)
      · refine lv_iload_n hx hb dX8_pulling_24 rfl (lv_at hl 0 rfl) ?_
        refine lv_bipush (v := 6) hx hb dX8_pulling_25 (by decide) ?_
        refine lv_icmp_ne (tgt := 36) hx hb dX8_pulling_27 (by decide) (fun c_111 => ?_) (fun c_111 => ?_)
        · exact absurd c_111 (by decide)
        · refine lv_aload_n hx hb dX8_pulling_30 rfl (lv_at hl 1 rfl) ?_
          refine lv_bipush (v := 51) hx hb dX8_pulling_31 (by decide) ?_
          skip
          refine zw_Vv (As := [.int 51]) (rest := []) (wr := [(mki, .inl (cI, 8, .inl gki)), (mpa, .inl (cI, 8, .inl gpa))]) ⟨hx, hb, hml, hown, hts⟩ (c_M_body l D cI cJ cZ cP cS po m0 mrf mki mpa mta mla msl mco mhe mso msi msh mce mca mwo mnu mte mwa mke mma mth mtr (npu) (nte) (nat_) (nde) (nto) (nse) (nhu) (nga) (nsd) (nfa) (nba) (npl) (nen) (nnu) (nwr) (q_108) (nik) q_109 (51) hy0 hy1 hy2 hy3 hy4 hy5 hy6 hy7 hy8 hy9 (by omega) (by omega) hy12 hy13 H.size) (cwV 1 hts gX8_pulling_X8_body rfl rfl rfl ⟨rfl, dh_X8_body⟩ ⟨Nat.le_of_ble_eq_true rfl, Nat.le_of_ble_eq_true rfl⟩) hK hN (hZ.kept hS) hP hD hS hA [2, 3] [0, 1] rfl rfl (by decide) (by decide) (by decide) (va_recv (q := (RX8, TX8, 38)) hK hP (ci := 8) (q0 := 2) rfl rfl) rfl hl.1 rfl (Nat.le_of_ble_eq_true rfl) dX8_pulling_33 ⟨Nat.le_of_ble_eq_true rfl, Nat.le_of_ble_eq_true rfl⟩ (fun u_113 H locs hr_112 hP hD hS => ?_)
          obtain ⟨q_114, q_115⟩ := u_113
          try dsimp only at hr_112
          obtain ⟨hbq_114, hr_112⟩ := hr_112
          have h9R := zRe (ws' := [(mki, .inl (cI, 8, .inl gki)), (mpa, .inl (cI, 8, .inl gpa)), (zMO m0 npu nte nat_ nde nto nse nhu nga nsd nfa mrf mki mpa mta mla msl mco mhe mso msi msh mce mca mwo mnu mte nba npl nen nnu nwr mwa mke mma mth mtr q_114 nik), (mtr, .inl (cI, 20, .inl q_115))]) hP hD rfl
          clear hP hD
          obtain ⟨hP, hD⟩ := h9R
          refine lv_iload_n hx hb dX8_pulling_36 rfl (lv_at hl 0 rfl) ?_
          refine lv_iconst (v := 1) hx hb dX8_pulling_37 (by decide) ?_
          refine lv_icmp_eq (tgt := 46) hx hb dX8_pulling_38 (by decide) (fun c_116 => ?_) (fun c_116 => ?_)
          · exact absurd c_116 (by decide)
          · refine lv_iload_n hx hb dX8_pulling_41 rfl (lv_at hl 0 rfl) ?_
            refine lv_iconst (v := 3) hx hb dX8_pulling_42 (by decide) ?_
            refine lv_icmp_ne (tgt := 52) hx hb dX8_pulling_43 (by decide) (fun c_117 => ?_) (fun c_117 => ?_)
            · refine lv_aload_n hx hb dX8_pulling_52 rfl (lv_at hl 1 rfl) ?_
              refine lv_bipush (v := 10) hx hb dX8_pulling_53 (by decide) ?_
              skip
              refine zw_Vv (As := [.int 10]) (rest := []) (wr := [(mki, .inl (cI, 8, .inl gki)), (mpa, .inl (cI, 8, .inl gpa))]) ⟨hx, hb, hml, hown, hts⟩ (c_M_body l D cI cJ cZ cP cS po m0 mrf mki mpa mta mla msl mco mhe mso msi msh mce mca mwo mnu mte mwa mke mma mth mtr (npu) (nte) (nat_) (nde) (nto) (nse) (nhu) (nga) (nsd) (nfa) (nba) (npl) (nen) (nnu) (nwr) (q_114) (nik) q_115 (10) hy0 hy1 hy2 hy3 hy4 hy5 hy6 hy7 hy8 hy9 (by omega) (by omega) hy12 hy13 H.size) (cwV 1 hts gX8_pulling_X8_body rfl rfl rfl ⟨rfl, dh_X8_body⟩ ⟨Nat.le_of_ble_eq_true rfl, Nat.le_of_ble_eq_true rfl⟩) hK hN (hZ.kept hS) hP hD hS hA [2, 3] [0, 1] rfl rfl (by decide) (by decide) (by decide) (va_recv (q := (RX8, TX8, 38)) hK hP (ci := 8) (q0 := 2) rfl rfl) rfl hl.1 rfl (Nat.le_of_ble_eq_true rfl) dX8_pulling_55 ⟨Nat.le_of_ble_eq_true rfl, Nat.le_of_ble_eq_true rfl⟩ (fun u_119 H locs hr_118 hP hD hS => ?_)
              obtain ⟨q_120, q_121⟩ := u_119
              try dsimp only at hr_118
              obtain ⟨hbq_120, hr_118⟩ := hr_118
              have h9R := zRe (ws' := [(mki, .inl (cI, 8, .inl gki)), (mpa, .inl (cI, 8, .inl gpa)), (zMO m0 npu nte nat_ nde nto nse nhu nga nsd nfa mrf mki mpa mta mla msl mco mhe mso msi msh mce mca mwo mnu mte nba npl nen nnu nwr mwa mke mma mth mtr q_120 nik), (mtr, .inl (cI, 20, .inl q_121))]) hP hD rfl
              clear hP hD
              obtain ⟨hP, hD⟩ := h9R
              refine lv_iload_n hx hb dX8_pulling_58 rfl (lv_at hl 3 rfl) ?_
              refine lv_iload_n hx hb dX8_pulling_59 rfl (lv_at hl 2 rfl) ?_
              refine lv_iadd hx hb dX8_pulling_60 ?_
              refine lv_topi (fun x_122 ex_122 => ?_)
              refine lv_istore (lv' := [(4, .int x_122), (3, .int 6), (0, .ref m0), (1, .int p_), (2, .int x)]) hx hb dX8_pulling_61 hl (by decide) rfl (fun ls hl => ?_)
              refine lv_iload_n hx hb dX8_pulling_63 rfl (lv_at hl 1 rfl) ?_
              refine lv_iconst (v := 1) hx hb dX8_pulling_64 (by decide) ?_
              refine lv_icmp_eq (tgt := 73) hx hb dX8_pulling_65 (by decide) (fun c_123 => ?_) (fun c_123 => ?_)
              · exact absurd c_123 (by decide)
              · refine lv_iload_n hx hb dX8_pulling_68 rfl (lv_at hl 1 rfl) ?_
                refine lv_iconst (v := 3) hx hb dX8_pulling_69 (by decide) ?_
                refine lv_icmp_ne (tgt := 84) hx hb dX8_pulling_70 (by decide) (fun c_124 => ?_) (fun c_124 => ?_)
                · refine lv_iload_n hx hb dX8_pulling_84 rfl (lv_at hl 1 rfl) ?_
                  refine lv_iconst (v := 4) hx hb dX8_pulling_85 (by decide) ?_
                  refine lv_icmp_eq (tgt := 95) hx hb dX8_pulling_86 (by decide) (fun c_125 => ?_) (fun c_125 => ?_)
                  · exact absurd c_125 (by decide)
                  · refine lv_iload_n hx hb dX8_pulling_89 rfl (lv_at hl 1 rfl) ?_
                    refine lv_bipush (v := 6) hx hb dX8_pulling_90 (by decide) ?_
                    refine lv_icmp_ne (tgt := 101) hx hb dX8_pulling_92 (by decide) (fun c_126 => ?_) (fun c_126 => ?_)
                    · exact absurd c_126 (by decide)
                    · refine lv_iload hx hb dX8_pulling_95 (lv_at hl 0 rfl) ?_
                      refine lv_iload_n hx hb dX8_pulling_97 rfl (lv_at hl 3 rfl) ?_
                      refine lv_isub hx hb dX8_pulling_98 ?_
                      refine lv_topi (fun x_127 ex_127 => ?_)
                      refine lv_istore (lv' := [(4, .int x_127), (3, .int 6), (0, .ref m0), (1, .int p_), (2, .int x)]) hx hb dX8_pulling_99 hl (by decide) rfl (fun ls hl => ?_)
                      refine lv_iload_n hx hb dX8_pulling_101 rfl (lv_at hl 1 rfl) ?_
                      refine lv_bipush (v := 6) hx hb dX8_pulling_102 (by decide) ?_
                      refine lv_icmp_ne (tgt := 114) hx hb dX8_pulling_104 (by decide) (fun c_128 => ?_) (fun c_128 => ?_)
                      · exact absurd c_128 (by decide)
                      · refine lv_iload hx hb dX8_pulling_107 (lv_at hl 0 rfl) ?_
                        refine lv_iconst (v := 2) hx hb dX8_pulling_109 (by decide) ?_
                        refine lv_imul hx hb dX8_pulling_110 ?_
                        refine lv_topi (fun x_129 ex_129 => ?_)
                        refine lv_goto (tgt := 116) hx hb dX8_pulling_111 (by decide) ?_
                        exact W.iret (v := x_129) hx hb hr (fun t ht hW => ⟨⟨x_129, (q_120, q_121), rfl, ⟨(show 0 ≤ q_120.toInt ∧ q_120.toInt ≤ 2000 from ⟨by omega, by omega⟩), (show q_120.toInt ≤ nra.toInt + 4 from by omega), trivial⟩, zRet ht hP hD [2, 0, 1, 3] (by decide) rfl⟩, hS.F ht⟩) hS.2.2 dX8_pulling_116
                · exact absurd c_124 (by decide)
            · exact absurd c_117 (by decide)
theorem hi_X8_freeing_8 : ∀ w ∈ u_ws RX8 TX8 38, w ∈ wsX8_freeing := fun w h => (gl_X8_freeing_X80 w h).1
set_option maxHeartbeats 4000000 in
set_option maxRecDepth 100000 in
theorem c_M_freeing (l : Launch) (D : va_G) (cI cJ cZ cP cS : ClassId) (po : zPool) (m0 mrf mki mpa mta mla msl mco mhe mso msi msh mce mca mwo mnu mte mwa mke mma mth mtr : Nat) (npu nte nat_ nde nto nse nhu nga nsd nfa nba npl nen nnu nwr nra nik : Int32) (gki gpa gtr : Nat → Int32) (p_ x : Int32) (hy0 : 0 ≤ npu.toInt) (hy1 : npu.toInt ≤ 8) (hy2 : 4 ≤ nte.toInt) (hy3 : nte.toInt ≤ 40) (hy4 : 0 ≤ nat_.toInt) (hy5 : nat_.toInt ≤ 40) (hy6 : 0 ≤ nde.toInt) (hy7 : nde.toInt ≤ 24) (hy8 : 0 ≤ nhu.toInt) (hy9 : nhu.toInt ≤ 9) (hy10 : 0 ≤ nra.toInt) (hy11 : nra.toInt ≤ 2000) (hy12 : 0 ≤ nik.toInt) (hy13 : nik.toInt ≤ 1) (hy14 : 0 ≤ p_.toInt) (hy15 : p_.toInt ≤ 7) (hy16 : 0 ≤ nra.toInt) (hy17 : nra.toInt ≤ 900) (hp_gki : zRg gki (0) 6) (hp_gpa : zRg gpa (0) 9) (hpz : Nat) : Met l yX8_freeing wsX8_freeing ({ frames := 2, cells := 0, slots := 0, locals := 45 }) (va_Pc [.ref m0, .int p_, .int x] (zW D (zKT cI cJ cZ cP cS) po [(zMO m0 npu nte nat_ nde nto nse nhu nga nsd nfa mrf mki mpa mta mla msl mco mhe mso msi msh mce mca mwo mnu mte nba npl nen nnu nwr mwa mke mma mth mtr nra nik), (mki, .inl (cI, 8, .inl gki)), (mpa, .inl (cI, 8, .inl gpa)), (mtr, .inl (cI, 20, .inl gtr))] hpz)) (va_Qi (fun (r : Int32) (u : (Int32) × (Nat → Int32)) => (0 ≤ u.1.toInt ∧ u.1.toInt ≤ 2000) ∧ (u.1.toInt ≤ nra.toInt + 8) ∧ (True)) (zB D [(zMO m0 npu nte nat_ nde nto nse nhu nga nsd nfa mrf mki mpa mta mla msl mco mhe mso msi msh mce mca mwo mnu mte nba npl nen nnu nwr mwa mke mma mth mtr nra nik), (mki, .inl (cI, 8, .inl gki)), (mpa, .inl (cI, 8, .inl gpa)), (mtr, .inl (cI, 20, .inl gtr))] hpz (fun (u : (Int32) × (Nat → Int32)) => [(zMO m0 npu nte nat_ nde nto nse nhu nga nsd nfa mrf mki mpa mta mla msl mco mhe mso msi msh mce mca mwo mnu mte nba npl nen nnu nwr mwa mke mma mth mtr u.1 nik), (mki, .inl (cI, 8, .inl gki)), (mpa, .inl (cI, 8, .inl gpa)), (mtr, .inl (cI, 20, .inl u.2))])) (va_A [(zMO m0 npu nte nat_ nde nto nse nhu nga nsd nfa mrf mki mpa mta mla msl mco mhe mso msi msh mce mca mwo mnu mte nba npl nen nnu nwr mwa mke mma mth mtr nra nik), (mki, .inl (cI, 8, .inl gki)), (mpa, .inl (cI, 8, .inl gpa)), (mtr, .inl (cI, 20, .inl gtr))] hpz)) 0 0 (va_A [(zMO m0 npu nte nat_ nde nto nse nhu nga nsd nfa mrf mki mpa mta mla msl mco mhe mso msi msh mce mca mwo mnu mte nba npl nen nnu nwr mwa mke mma mth mtr nra nik), (mki, .inl (cI, 8, .inl gki)), (mpa, .inl (cI, 8, .inl gpa)), (mtr, .inl (cI, 20, .inl gtr))] hpz) := by
  refine Met.ofW (cc := cX8_freeing) (maxL := 7) (ret := (some .int)) (by decide) rfl ?_
  intro p e s m args below meth c s₁ B hml hv
  obtain ⟨rfl, hsz, hP, hK, hD0, hN, hZ⟩ := hv
  have hx := B.exec
  have hb := B.bytes
  have hr := B.returns
  have hts := atoms_spec (ws := wsX8_freeing) B.pre
  have hown : s.vm.findClass RX8 = some m.cls := findClass_of_methodNamed B.named
  have hlocks := B.notSynchronized
  subst hsz
  have hD := hD0.self (sz := s.heap.size)
  have hA := zA_of hD
  have hl := lv_entry ([.ref m0, .int p_, .int x]) (n := 7) (Nat.le_of_ble_eq_true rfl)
  rw [lg_entry_eq]
  generalize (lg_sl ([.ref m0, .int p_, .int x]) ++ List.replicate (7 - (lg_sl ([.ref m0, .int p_, .int x])).length) Slot.unset).toArray = ls at hl ⊢
  replace hl : lv_has ls 7 [(0, .ref m0), (1, .int p_), (2, .int x)] := hl
  refine zw_begin hP hD (fun H locs hP1 hS => ?_)
  clear hP
  have hP := hP1
  clear hP1
  refine lv_aload_n hx hb dX8_freeing_0 rfl (lv_at hl 0 rfl) ?_
  refine va_get (D := D) (ci := 8) (v := .ref mki) (C := RX8) (T := TX8) (N := 38) hx hb hts hi_X8_freeing_8 hown hK hP 0 rfl rfl 11 (by decide) (hts (.fieldLink RX8 29 "TheLiningsInItModel" "kind" "[I") (List.mem_of_getElem? (i := 1) rfl)) (fun _ h9 => h9) rfl dX8_freeing_1 ?_
  refine lv_iload_n hx hb dX8_freeing_4 rfl (lv_at hl 1 rfl) ?_
  refine va_iald hx hb hK hP 1 0 rfl rfl (zf_in (by omega) (by omega)) dX8_freeing_5 ?_
  refine lv_topi (fun x_1 ex_1 => ?_)
  have bx_1 : 0 ≤ x_1.toInt ∧ x_1.toInt ≤ 6 := by rw [ex_1]; exact hp_gki _
  refine lv_istore_n (lv' := [(3, .int x_1), (0, .ref m0), (1, .int p_), (2, .int x)]) hx hb dX8_freeing_6 rfl hl (by decide) rfl (fun ls hl => ?_)
  have hsp : x_1 = 0 ∨ x_1 = 1 ∨ x_1 = 2 ∨ x_1 = 3 ∨ x_1 = 4 ∨ x_1 = 5 ∨ x_1 = 6 := by
    rcases (show x_1.toInt = 0 ∨ x_1.toInt = 1 ∨ x_1.toInt = 2 ∨ x_1.toInt = 3 ∨ x_1.toInt = 4 ∨ x_1.toInt = 5 ∨ x_1.toInt = 6 by omega) with h9 | h9 | h9 | h9 | h9 | h9 | h9
    · refine Or.inl ?_; exact zf_val h9 (by decide)
    · refine Or.inr (Or.inl ?_); exact zf_val h9 (by decide)
    · refine Or.inr (Or.inr (Or.inl ?_)); exact zf_val h9 (by decide)
    · refine Or.inr (Or.inr (Or.inr (Or.inl ?_))); exact zf_val h9 (by decide)
    · refine Or.inr (Or.inr (Or.inr (Or.inr (Or.inl ?_)))); exact zf_val h9 (by decide)
    · refine Or.inr (Or.inr (Or.inr (Or.inr (Or.inr (Or.inl ?_))))); exact zf_val h9 (by decide)
    · refine Or.inr (Or.inr (Or.inr (Or.inr (Or.inr (Or.inr (?_)))))); exact zf_val h9 (by decide)
  rcases hsp with rfl | rfl | rfl | rfl | rfl | rfl | rfl
  · have kc0 : (0 : Int32).toInt = 0 := by decide
    refine lv_iload_n hx hb dX8_freeing_7 rfl (lv_at hl 3 rfl) ?_
    refine lv_istore (lv' := [(4, .int x), (3, .int 0), (0, .ref m0), (1, .int p_), (2, .int x)]) hx hb dX8_freeing_8 hl (by decide) rfl (fun ls hl => ?_)
    refine lv_iload_n hx hb dX8_freeing_10 rfl (lv_at hl 1 rfl) ?_
    refine lv_bipush (v := 6) hx hb dX8_freeing_11 (by decide) ?_
    refine lv_icmp_ne (tgt := 32) hx hb dX8_freeing_13 (by decide) (fun c_2 => ?_) (fun c_2 => ?_)
    · refine lv_iload_n hx hb dX8_freeing_32 rfl (lv_at hl 1 rfl) ?_
      refine lv_iconst (v := 3) hx hb dX8_freeing_33 (by decide) ?_
      refine lv_icmp_ne (tgt := 48) hx hb dX8_freeing_34 (by decide) (fun c_3 => ?_) (fun c_3 => ?_)
      · refine lv_iload_n hx hb dX8_freeing_48 rfl (lv_at hl 1 rfl) ?_
        refine lv_iconst (v := 2) hx hb dX8_freeing_49 (by decide) ?_
        refine lv_icmp_eq (tgt := 58) hx hb dX8_freeing_50 (by decide) (fun c_4 => ?_) (fun c_4 => ?_)
        · exact absurd c_4 (by decide)
        · refine lv_iload_n hx hb dX8_freeing_53 rfl (lv_at hl 1 rfl) ?_
          refine lv_iconst (v := 5) hx hb dX8_freeing_54 (by decide) ?_
          refine lv_icmp_ne (tgt := 62) hx hb dX8_freeing_55 (by decide) (fun c_5 => ?_) (fun c_5 => ?_)
          · refine lv_iconst (v := 0) hx hb dX8_freeing_62 (by decide) ?_
            refine lv_istore (lv' := [(5, .int 0), (4, .int x), (3, .int 0), (0, .ref m0), (1, .int p_), (2, .int x)]) hx hb dX8_freeing_63 hl (by decide) rfl (fun ls hl => ?_)
            refine lv_iload hx hb dX8_freeing_65 (lv_at hl 0 rfl) ?_
            refine lv_if_eq (tgt := 76) hx hb dX8_freeing_67 (by decide) (fun c_6 => ?_) (fun c_6 => ?_)
            · refine lv_aload_n hx hb dX8_freeing_76 rfl (lv_at hl 3 rfl) ?_
              refine lv_bipush (v := 11) hx hb dX8_freeing_77 (by decide) ?_
              skip
              refine zw_Vv (As := [.int 11]) (rest := []) (wr := [(mki, .inl (cI, 8, .inl gki)), (mpa, .inl (cI, 8, .inl gpa))]) ⟨hx, hb, hml, hown, hts⟩ (c_M_body l D cI cJ cZ cP cS po m0 mrf mki mpa mta mla msl mco mhe mso msi msh mce mca mwo mnu mte mwa mke mma mth mtr (npu) (nte) (nat_) (nde) (nto) (nse) (nhu) (nga) (nsd) (nfa) (nba) (npl) (nen) (nnu) (nwr) (nra) (nik) gtr (11) hy0 hy1 hy2 hy3 hy4 hy5 hy6 hy7 hy8 hy9 hy10 hy11 hy12 hy13 H.size) (cwV 1 hts gX8_freeing_X8_body rfl rfl rfl ⟨rfl, dh_X8_body⟩ ⟨Nat.le_of_ble_eq_true rfl, Nat.le_of_ble_eq_true rfl⟩) hK hN (hZ.kept hS) hP hD hS hA [0, 3] [1, 2] rfl rfl (by decide) (by decide) (by decide) (va_recv (q := (RX8, TX8, 38)) hK hP (ci := 8) (q0 := 0) rfl rfl) rfl hl.1 rfl (Nat.le_of_ble_eq_true rfl) dX8_freeing_79 ⟨Nat.le_of_ble_eq_true rfl, Nat.le_of_ble_eq_true rfl⟩ (fun u_8 H locs hr_7 hP hD hS => ?_)
              obtain ⟨q_9, q_10⟩ := u_8
              try dsimp only at hr_7
              obtain ⟨hbq_9, hr_7⟩ := hr_7
              have h9R := zRe (ws' := [(mki, .inl (cI, 8, .inl gki)), (mpa, .inl (cI, 8, .inl gpa)), (zMO m0 npu nte nat_ nde nto nse nhu nga nsd nfa mrf mki mpa mta mla msl mco mhe mso msi msh mce mca mwo mnu mte nba npl nen nnu nwr mwa mke mma mth mtr q_9 nik), (mtr, .inl (cI, 20, .inl q_10))]) hP hD rfl
              clear hP hD
              obtain ⟨hP, hD⟩ := h9R
              refine lv_aload_n hx hb dX8_freeing_82 rfl (lv_at hl 3 rfl) ?_
              refine lv_iload_n hx hb dX8_freeing_83 rfl (lv_at hl 4 rfl) ?_
              refine lv_iload hx hb dX8_freeing_84 (lv_at hl 1 rfl) ?_
              skip
              refine zw_V (As := [.int p_, .int x]) (rest := []) (wr := []) ⟨hx, hb, hml, hown, hts⟩ (c_M_pulling l D cI cJ cZ cP cS po m0 mrf mki mpa mta mla msl mco mhe mso msi msh mce mca mwo mnu mte mwa mke mma mth mtr (npu) (nte) (nat_) (nde) (nto) (nse) (nhu) (nga) (nsd) (nfa) (nba) (npl) (nen) (nnu) (nwr) (q_9) (nik) gki gpa q_10 (p_) (x) hy0 hy1 hy2 hy3 hy4 hy5 hy6 hy7 hy8 hy9 (by omega) (by omega) hy12 hy13 hy14 hy15 (by omega) (by omega) hp_gki hp_gpa H.size) (cwV 2 hts gX8_freeing_X8_pulling rfl rfl rfl ⟨rfl, dh_X8_pulling⟩ ⟨Nat.le_of_ble_eq_true rfl, Nat.le_of_ble_eq_true rfl⟩) hK hN (hZ.kept hS) hP hD hS hA [2, 0, 1, 3] [] rfl rfl (by decide) (by decide) (by decide) (va_recv (q := (RX8, TX8, 38)) hK hP (ci := 8) (q0 := 2) rfl rfl) rfl hl.1 rfl (Nat.le_of_ble_eq_true rfl) dX8_freeing_86 ⟨Nat.le_of_ble_eq_true rfl, Nat.le_of_ble_eq_true rfl⟩ (fun r_11 u_12 H locs hr_11 hP hD hS => ?_)
              obtain ⟨q_13, q_14⟩ := u_12
              try dsimp only at hr_11
              obtain ⟨hbq_13, hsr_11_0, hr_11⟩ := hr_11
              have h9R := zRe (ws' := [(zMO m0 npu nte nat_ nde nto nse nhu nga nsd nfa mrf mki mpa mta mla msl mco mhe mso msi msh mce mca mwo mnu mte nba npl nen nnu nwr mwa mke mma mth mtr q_13 nik), (mki, .inl (cI, 8, .inl gki)), (mpa, .inl (cI, 8, .inl gpa)), (mtr, .inl (cI, 20, .inl q_14))]) hP hD rfl
              clear hP hD
              obtain ⟨hP, hD⟩ := h9R
              refine lv_iconst (v := 2) hx hb dX8_freeing_89 (by decide) ?_
              refine lv_imul hx hb dX8_freeing_90 ?_
              refine lv_topi (fun x_15 ex_15 => ?_)
              refine lv_istore (lv' := [(6, .int x_15), (5, .int 0), (4, .int x), (3, .int 0), (0, .ref m0), (1, .int p_), (2, .int x)]) hx hb dX8_freeing_91 hl (by decide) rfl (fun ls hl => ?_)
              refine lv_iload hx hb dX8_freeing_93 (lv_at hl 1 rfl) ?_
              refine lv_if_eq (tgt := 105) hx hb dX8_freeing_95 (by decide) (fun c_16 => ?_) (fun c_16 => ?_)
              · refine lv_iload hx hb dX8_freeing_105 (lv_at hl 0 rfl) ?_
                exact W.iret (v := x_15) hx hb hr (fun t ht hW => ⟨⟨x_15, (q_13, q_14), rfl, ⟨(show 0 ≤ q_13.toInt ∧ q_13.toInt ≤ 2000 from hbq_13), (show q_13.toInt ≤ nra.toInt + 8 from by omega), trivial⟩, zRet ht hP hD [0, 1, 2, 3] (by decide) rfl⟩, hS.F ht⟩) hS.2.2 dX8_freeing_107
              · exact absurd c_16 (by decide)
            · exact absurd c_6 (by decide)
          · exact absurd c_5 (by decide)
      · exact absurd c_3 (by decide)
    · exact absurd c_2 (by decide)
  · have kc1 : (1 : Int32).toInt = 1 := by decide
    refine lv_iload_n hx hb dX8_freeing_7 rfl (lv_at hl 3 rfl) ?_
    refine lv_istore (lv' := [(4, .int x), (3, .int 1), (0, .ref m0), (1, .int p_), (2, .int x)]) hx hb dX8_freeing_8 hl (by decide) rfl (fun ls hl => ?_)
    refine lv_iload_n hx hb dX8_freeing_10 rfl (lv_at hl 1 rfl) ?_
    refine lv_bipush (v := 6) hx hb dX8_freeing_11 (by decide) ?_
    refine lv_icmp_ne (tgt := 32) hx hb dX8_freeing_13 (by decide) (fun c_17 => ?_) (fun c_17 => ?_)
    · refine lv_iload_n hx hb dX8_freeing_32 rfl (lv_at hl 1 rfl) ?_
      refine lv_iconst (v := 3) hx hb dX8_freeing_33 (by decide) ?_
      refine lv_icmp_ne (tgt := 48) hx hb dX8_freeing_34 (by decide) (fun c_18 => ?_) (fun c_18 => ?_)
      · refine lv_iload_n hx hb dX8_freeing_48 rfl (lv_at hl 1 rfl) ?_
        refine lv_iconst (v := 2) hx hb dX8_freeing_49 (by decide) ?_
        refine lv_icmp_eq (tgt := 58) hx hb dX8_freeing_50 (by decide) (fun c_19 => ?_) (fun c_19 => ?_)
        · exact absurd c_19 (by decide)
        · refine lv_iload_n hx hb dX8_freeing_53 rfl (lv_at hl 1 rfl) ?_
          refine lv_iconst (v := 5) hx hb dX8_freeing_54 (by decide) ?_
          refine lv_icmp_ne (tgt := 62) hx hb dX8_freeing_55 (by decide) (fun c_20 => ?_) (fun c_20 => ?_)
          · refine lv_iconst (v := 0) hx hb dX8_freeing_62 (by decide) ?_
            refine lv_istore (lv' := [(5, .int 0), (4, .int x), (3, .int 1), (0, .ref m0), (1, .int p_), (2, .int x)]) hx hb dX8_freeing_63 hl (by decide) rfl (fun ls hl => ?_)
            refine lv_iload hx hb dX8_freeing_65 (lv_at hl 0 rfl) ?_
            refine lv_if_eq (tgt := 76) hx hb dX8_freeing_67 (by decide) (fun c_21 => ?_) (fun c_21 => ?_)
            · refine lv_aload_n hx hb dX8_freeing_76 rfl (lv_at hl 3 rfl) ?_
              refine lv_bipush (v := 11) hx hb dX8_freeing_77 (by decide) ?_
              skip
              refine zw_Vv (As := [.int 11]) (rest := []) (wr := [(mki, .inl (cI, 8, .inl gki)), (mpa, .inl (cI, 8, .inl gpa))]) ⟨hx, hb, hml, hown, hts⟩ (c_M_body l D cI cJ cZ cP cS po m0 mrf mki mpa mta mla msl mco mhe mso msi msh mce mca mwo mnu mte mwa mke mma mth mtr (npu) (nte) (nat_) (nde) (nto) (nse) (nhu) (nga) (nsd) (nfa) (nba) (npl) (nen) (nnu) (nwr) (nra) (nik) gtr (11) hy0 hy1 hy2 hy3 hy4 hy5 hy6 hy7 hy8 hy9 hy10 hy11 hy12 hy13 H.size) (cwV 1 hts gX8_freeing_X8_body rfl rfl rfl ⟨rfl, dh_X8_body⟩ ⟨Nat.le_of_ble_eq_true rfl, Nat.le_of_ble_eq_true rfl⟩) hK hN (hZ.kept hS) hP hD hS hA [0, 3] [1, 2] rfl rfl (by decide) (by decide) (by decide) (va_recv (q := (RX8, TX8, 38)) hK hP (ci := 8) (q0 := 0) rfl rfl) rfl hl.1 rfl (Nat.le_of_ble_eq_true rfl) dX8_freeing_79 ⟨Nat.le_of_ble_eq_true rfl, Nat.le_of_ble_eq_true rfl⟩ (fun u_23 H locs hr_22 hP hD hS => ?_)
              obtain ⟨q_24, q_25⟩ := u_23
              try dsimp only at hr_22
              obtain ⟨hbq_24, hr_22⟩ := hr_22
              have h9R := zRe (ws' := [(mki, .inl (cI, 8, .inl gki)), (mpa, .inl (cI, 8, .inl gpa)), (zMO m0 npu nte nat_ nde nto nse nhu nga nsd nfa mrf mki mpa mta mla msl mco mhe mso msi msh mce mca mwo mnu mte nba npl nen nnu nwr mwa mke mma mth mtr q_24 nik), (mtr, .inl (cI, 20, .inl q_25))]) hP hD rfl
              clear hP hD
              obtain ⟨hP, hD⟩ := h9R
              refine lv_aload_n hx hb dX8_freeing_82 rfl (lv_at hl 3 rfl) ?_
              refine lv_iload_n hx hb dX8_freeing_83 rfl (lv_at hl 4 rfl) ?_
              refine lv_iload hx hb dX8_freeing_84 (lv_at hl 1 rfl) ?_
              skip
              refine zw_V (As := [.int p_, .int x]) (rest := []) (wr := []) ⟨hx, hb, hml, hown, hts⟩ (c_M_pulling l D cI cJ cZ cP cS po m0 mrf mki mpa mta mla msl mco mhe mso msi msh mce mca mwo mnu mte mwa mke mma mth mtr (npu) (nte) (nat_) (nde) (nto) (nse) (nhu) (nga) (nsd) (nfa) (nba) (npl) (nen) (nnu) (nwr) (q_24) (nik) gki gpa q_25 (p_) (x) hy0 hy1 hy2 hy3 hy4 hy5 hy6 hy7 hy8 hy9 (by omega) (by omega) hy12 hy13 hy14 hy15 (by omega) (by omega) hp_gki hp_gpa H.size) (cwV 2 hts gX8_freeing_X8_pulling rfl rfl rfl ⟨rfl, dh_X8_pulling⟩ ⟨Nat.le_of_ble_eq_true rfl, Nat.le_of_ble_eq_true rfl⟩) hK hN (hZ.kept hS) hP hD hS hA [2, 0, 1, 3] [] rfl rfl (by decide) (by decide) (by decide) (va_recv (q := (RX8, TX8, 38)) hK hP (ci := 8) (q0 := 2) rfl rfl) rfl hl.1 rfl (Nat.le_of_ble_eq_true rfl) dX8_freeing_86 ⟨Nat.le_of_ble_eq_true rfl, Nat.le_of_ble_eq_true rfl⟩ (fun r_26 u_27 H locs hr_26 hP hD hS => ?_)
              obtain ⟨q_28, q_29⟩ := u_27
              try dsimp only at hr_26
              obtain ⟨hbq_28, hsr_26_0, hr_26⟩ := hr_26
              have h9R := zRe (ws' := [(zMO m0 npu nte nat_ nde nto nse nhu nga nsd nfa mrf mki mpa mta mla msl mco mhe mso msi msh mce mca mwo mnu mte nba npl nen nnu nwr mwa mke mma mth mtr q_28 nik), (mki, .inl (cI, 8, .inl gki)), (mpa, .inl (cI, 8, .inl gpa)), (mtr, .inl (cI, 20, .inl q_29))]) hP hD rfl
              clear hP hD
              obtain ⟨hP, hD⟩ := h9R
              refine lv_iconst (v := 2) hx hb dX8_freeing_89 (by decide) ?_
              refine lv_imul hx hb dX8_freeing_90 ?_
              refine lv_topi (fun x_30 ex_30 => ?_)
              refine lv_istore (lv' := [(6, .int x_30), (5, .int 0), (4, .int x), (3, .int 1), (0, .ref m0), (1, .int p_), (2, .int x)]) hx hb dX8_freeing_91 hl (by decide) rfl (fun ls hl => ?_)
              refine lv_iload hx hb dX8_freeing_93 (lv_at hl 1 rfl) ?_
              refine lv_if_eq (tgt := 105) hx hb dX8_freeing_95 (by decide) (fun c_31 => ?_) (fun c_31 => ?_)
              · refine lv_iload hx hb dX8_freeing_105 (lv_at hl 0 rfl) ?_
                exact W.iret (v := x_30) hx hb hr (fun t ht hW => ⟨⟨x_30, (q_28, q_29), rfl, ⟨(show 0 ≤ q_28.toInt ∧ q_28.toInt ≤ 2000 from hbq_28), (show q_28.toInt ≤ nra.toInt + 8 from by omega), trivial⟩, zRet ht hP hD [0, 1, 2, 3] (by decide) rfl⟩, hS.F ht⟩) hS.2.2 dX8_freeing_107
              · exact absurd c_31 (by decide)
            · exact absurd c_21 (by decide)
          · exact absurd c_20 (by decide)
      · exact absurd c_18 (by decide)
    · exact absurd c_17 (by decide)
  · have kc2 : (2 : Int32).toInt = 2 := by decide
    refine lv_iload_n hx hb dX8_freeing_7 rfl (lv_at hl 3 rfl) ?_
    refine lv_istore (lv' := [(4, .int x), (3, .int 2), (0, .ref m0), (1, .int p_), (2, .int x)]) hx hb dX8_freeing_8 hl (by decide) rfl (fun ls hl => ?_)
    refine lv_iload_n hx hb dX8_freeing_10 rfl (lv_at hl 1 rfl) ?_
    refine lv_bipush (v := 6) hx hb dX8_freeing_11 (by decide) ?_
    refine lv_icmp_ne (tgt := 32) hx hb dX8_freeing_13 (by decide) (fun c_32 => ?_) (fun c_32 => ?_)
    · refine lv_iload_n hx hb dX8_freeing_32 rfl (lv_at hl 1 rfl) ?_
      refine lv_iconst (v := 3) hx hb dX8_freeing_33 (by decide) ?_
      refine lv_icmp_ne (tgt := 48) hx hb dX8_freeing_34 (by decide) (fun c_33 => ?_) (fun c_33 => ?_)
      · refine lv_iload_n hx hb dX8_freeing_48 rfl (lv_at hl 1 rfl) ?_
        refine lv_iconst (v := 2) hx hb dX8_freeing_49 (by decide) ?_
        refine lv_icmp_eq (tgt := 58) hx hb dX8_freeing_50 (by decide) (fun c_34 => ?_) (fun c_34 => ?_)
        · refine lv_iconst (v := 1) hx hb dX8_freeing_58 (by decide) ?_
          refine lv_goto (tgt := 63) hx hb dX8_freeing_59 (by decide) ?_
          refine lv_istore (lv' := [(5, .int 1), (4, .int x), (3, .int 2), (0, .ref m0), (1, .int p_), (2, .int x)]) hx hb dX8_freeing_63 hl (by decide) rfl (fun ls hl => ?_)
          refine lv_iload hx hb dX8_freeing_65 (lv_at hl 0 rfl) ?_
          refine lv_if_eq (tgt := 76) hx hb dX8_freeing_67 (by decide) (fun c_35 => ?_) (fun c_35 => ?_)
          · exact absurd c_35 (by decide)
          · refine lv_aload_n hx hb dX8_freeing_70 rfl (lv_at hl 3 rfl) ?_
            refine lv_bipush (v := 30) hx hb dX8_freeing_71 (by decide) ?_
            skip
            refine zw_Vv (As := [.int 30]) (rest := []) (wr := [(mki, .inl (cI, 8, .inl gki)), (mpa, .inl (cI, 8, .inl gpa))]) ⟨hx, hb, hml, hown, hts⟩ (c_M_body l D cI cJ cZ cP cS po m0 mrf mki mpa mta mla msl mco mhe mso msi msh mce mca mwo mnu mte mwa mke mma mth mtr (npu) (nte) (nat_) (nde) (nto) (nse) (nhu) (nga) (nsd) (nfa) (nba) (npl) (nen) (nnu) (nwr) (nra) (nik) gtr (30) hy0 hy1 hy2 hy3 hy4 hy5 hy6 hy7 hy8 hy9 hy10 hy11 hy12 hy13 H.size) (cwV 1 hts gX8_freeing_X8_body rfl rfl rfl ⟨rfl, dh_X8_body⟩ ⟨Nat.le_of_ble_eq_true rfl, Nat.le_of_ble_eq_true rfl⟩) hK hN (hZ.kept hS) hP hD hS hA [0, 3] [1, 2] rfl rfl (by decide) (by decide) (by decide) (va_recv (q := (RX8, TX8, 38)) hK hP (ci := 8) (q0 := 0) rfl rfl) rfl hl.1 rfl (Nat.le_of_ble_eq_true rfl) dX8_freeing_73 ⟨Nat.le_of_ble_eq_true rfl, Nat.le_of_ble_eq_true rfl⟩ (fun u_37 H locs hr_36 hP hD hS => ?_)
            obtain ⟨q_38, q_39⟩ := u_37
            try dsimp only at hr_36
            obtain ⟨hbq_38, hr_36⟩ := hr_36
            have h9R := zRe (ws' := [(mki, .inl (cI, 8, .inl gki)), (mpa, .inl (cI, 8, .inl gpa)), (zMO m0 npu nte nat_ nde nto nse nhu nga nsd nfa mrf mki mpa mta mla msl mco mhe mso msi msh mce mca mwo mnu mte nba npl nen nnu nwr mwa mke mma mth mtr q_38 nik), (mtr, .inl (cI, 20, .inl q_39))]) hP hD rfl
            clear hP hD
            obtain ⟨hP, hD⟩ := h9R
            refine lv_aload_n hx hb dX8_freeing_76 rfl (lv_at hl 3 rfl) ?_
            refine lv_bipush (v := 11) hx hb dX8_freeing_77 (by decide) ?_
            skip
            refine zw_Vv (As := [.int 11]) (rest := []) (wr := [(mki, .inl (cI, 8, .inl gki)), (mpa, .inl (cI, 8, .inl gpa))]) ⟨hx, hb, hml, hown, hts⟩ (c_M_body l D cI cJ cZ cP cS po m0 mrf mki mpa mta mla msl mco mhe mso msi msh mce mca mwo mnu mte mwa mke mma mth mtr (npu) (nte) (nat_) (nde) (nto) (nse) (nhu) (nga) (nsd) (nfa) (nba) (npl) (nen) (nnu) (nwr) (q_38) (nik) q_39 (11) hy0 hy1 hy2 hy3 hy4 hy5 hy6 hy7 hy8 hy9 (by omega) (by omega) hy12 hy13 H.size) (cwV 1 hts gX8_freeing_X8_body rfl rfl rfl ⟨rfl, dh_X8_body⟩ ⟨Nat.le_of_ble_eq_true rfl, Nat.le_of_ble_eq_true rfl⟩) hK hN (hZ.kept hS) hP hD hS hA [2, 3] [0, 1] rfl rfl (by decide) (by decide) (by decide) (va_recv (q := (RX8, TX8, 38)) hK hP (ci := 8) (q0 := 2) rfl rfl) rfl hl.1 rfl (Nat.le_of_ble_eq_true rfl) dX8_freeing_79 ⟨Nat.le_of_ble_eq_true rfl, Nat.le_of_ble_eq_true rfl⟩ (fun u_41 H locs hr_40 hP hD hS => ?_)
            obtain ⟨q_42, q_43⟩ := u_41
            try dsimp only at hr_40
            obtain ⟨hbq_42, hr_40⟩ := hr_40
            have h9R := zRe (ws' := [(mki, .inl (cI, 8, .inl gki)), (mpa, .inl (cI, 8, .inl gpa)), (zMO m0 npu nte nat_ nde nto nse nhu nga nsd nfa mrf mki mpa mta mla msl mco mhe mso msi msh mce mca mwo mnu mte nba npl nen nnu nwr mwa mke mma mth mtr q_42 nik), (mtr, .inl (cI, 20, .inl q_43))]) hP hD rfl
            clear hP hD
            obtain ⟨hP, hD⟩ := h9R
            refine lv_aload_n hx hb dX8_freeing_82 rfl (lv_at hl 3 rfl) ?_
            refine lv_iload_n hx hb dX8_freeing_83 rfl (lv_at hl 4 rfl) ?_
            refine lv_iload hx hb dX8_freeing_84 (lv_at hl 1 rfl) ?_
            skip
            refine zw_V (As := [.int p_, .int x]) (rest := []) (wr := []) ⟨hx, hb, hml, hown, hts⟩ (c_M_pulling l D cI cJ cZ cP cS po m0 mrf mki mpa mta mla msl mco mhe mso msi msh mce mca mwo mnu mte mwa mke mma mth mtr (npu) (nte) (nat_) (nde) (nto) (nse) (nhu) (nga) (nsd) (nfa) (nba) (npl) (nen) (nnu) (nwr) (q_42) (nik) gki gpa q_43 (p_) (x) hy0 hy1 hy2 hy3 hy4 hy5 hy6 hy7 hy8 hy9 (by omega) (by omega) hy12 hy13 hy14 hy15 (by omega) (by omega) hp_gki hp_gpa H.size) (cwV 2 hts gX8_freeing_X8_pulling rfl rfl rfl ⟨rfl, dh_X8_pulling⟩ ⟨Nat.le_of_ble_eq_true rfl, Nat.le_of_ble_eq_true rfl⟩) hK hN (hZ.kept hS) hP hD hS hA [2, 0, 1, 3] [] rfl rfl (by decide) (by decide) (by decide) (va_recv (q := (RX8, TX8, 38)) hK hP (ci := 8) (q0 := 2) rfl rfl) rfl hl.1 rfl (Nat.le_of_ble_eq_true rfl) dX8_freeing_86 ⟨Nat.le_of_ble_eq_true rfl, Nat.le_of_ble_eq_true rfl⟩ (fun r_44 u_45 H locs hr_44 hP hD hS => ?_)
            obtain ⟨q_46, q_47⟩ := u_45
            try dsimp only at hr_44
            obtain ⟨hbq_46, hsr_44_0, hr_44⟩ := hr_44
            have h9R := zRe (ws' := [(zMO m0 npu nte nat_ nde nto nse nhu nga nsd nfa mrf mki mpa mta mla msl mco mhe mso msi msh mce mca mwo mnu mte nba npl nen nnu nwr mwa mke mma mth mtr q_46 nik), (mki, .inl (cI, 8, .inl gki)), (mpa, .inl (cI, 8, .inl gpa)), (mtr, .inl (cI, 20, .inl q_47))]) hP hD rfl
            clear hP hD
            obtain ⟨hP, hD⟩ := h9R
            refine lv_iconst (v := 2) hx hb dX8_freeing_89 (by decide) ?_
            refine lv_imul hx hb dX8_freeing_90 ?_
            refine lv_topi (fun x_48 ex_48 => ?_)
            refine lv_istore (lv' := [(6, .int x_48), (5, .int 1), (4, .int x), (3, .int 2), (0, .ref m0), (1, .int p_), (2, .int x)]) hx hb dX8_freeing_91 hl (by decide) rfl (fun ls hl => ?_)
            refine lv_iload hx hb dX8_freeing_93 (lv_at hl 1 rfl) ?_
            refine lv_if_eq (tgt := 105) hx hb dX8_freeing_95 (by decide) (fun c_49 => ?_) (fun c_49 => ?_)
            · exact absurd c_49 (by decide)
            · refine lv_iload hx hb dX8_freeing_98 (lv_at hl 0 rfl) ?_
              refine lv_iconst (v := 3) hx hb dX8_freeing_100 (by decide) ?_
              refine lv_imul hx hb dX8_freeing_101 ?_
              refine lv_topi (fun x_50 ex_50 => ?_)
              refine lv_goto (tgt := 107) hx hb dX8_freeing_102 (by decide) ?_
              exact W.iret (v := x_50) hx hb hr (fun t ht hW => ⟨⟨x_50, (q_46, q_47), rfl, ⟨(show 0 ≤ q_46.toInt ∧ q_46.toInt ≤ 2000 from hbq_46), (show q_46.toInt ≤ nra.toInt + 8 from by omega), trivial⟩, zRet ht hP hD [0, 1, 2, 3] (by decide) rfl⟩, hS.F ht⟩) hS.2.2 dX8_freeing_107
        · exact absurd c_34 (by decide)
      · exact absurd c_33 (by decide)
    · exact absurd c_32 (by decide)
  · have kc3 : (3 : Int32).toInt = 3 := by decide
    refine lv_iload_n hx hb dX8_freeing_7 rfl (lv_at hl 3 rfl) ?_
    refine lv_istore (lv' := [(4, .int x), (3, .int 3), (0, .ref m0), (1, .int p_), (2, .int x)]) hx hb dX8_freeing_8 hl (by decide) rfl (fun ls hl => ?_)
    refine lv_iload_n hx hb dX8_freeing_10 rfl (lv_at hl 1 rfl) ?_
    refine lv_bipush (v := 6) hx hb dX8_freeing_11 (by decide) ?_
    refine lv_icmp_ne (tgt := 32) hx hb dX8_freeing_13 (by decide) (fun c_51 => ?_) (fun c_51 => ?_)
    · refine lv_iload_n hx hb dX8_freeing_32 rfl (lv_at hl 1 rfl) ?_
      refine lv_iconst (v := 3) hx hb dX8_freeing_33 (by decide) ?_
      refine lv_icmp_ne (tgt := 48) hx hb dX8_freeing_34 (by decide) (fun c_52 => ?_) (fun c_52 => ?_)
      · exact absurd c_52 (by decide)
      · refine lv_aload_n hx hb dX8_freeing_37 rfl (lv_at hl 2 rfl) ?_
        refine lv_bipush (v := 40) hx hb dX8_freeing_38 (by decide) ?_
        skip
        refine zw_Vv (As := [.int 40]) (rest := []) (wr := [(mki, .inl (cI, 8, .inl gki)), (mpa, .inl (cI, 8, .inl gpa))]) ⟨hx, hb, hml, hown, hts⟩ (c_M_body l D cI cJ cZ cP cS po m0 mrf mki mpa mta mla msl mco mhe mso msi msh mce mca mwo mnu mte mwa mke mma mth mtr (npu) (nte) (nat_) (nde) (nto) (nse) (nhu) (nga) (nsd) (nfa) (nba) (npl) (nen) (nnu) (nwr) (nra) (nik) gtr (40) hy0 hy1 hy2 hy3 hy4 hy5 hy6 hy7 hy8 hy9 hy10 hy11 hy12 hy13 H.size) (cwV 1 hts gX8_freeing_X8_body rfl rfl rfl ⟨rfl, dh_X8_body⟩ ⟨Nat.le_of_ble_eq_true rfl, Nat.le_of_ble_eq_true rfl⟩) hK hN (hZ.kept hS) hP hD hS hA [0, 3] [1, 2] rfl rfl (by decide) (by decide) (by decide) (va_recv (q := (RX8, TX8, 38)) hK hP (ci := 8) (q0 := 0) rfl rfl) rfl hl.1 rfl (Nat.le_of_ble_eq_true rfl) dX8_freeing_40 ⟨Nat.le_of_ble_eq_true rfl, Nat.le_of_ble_eq_true rfl⟩ (fun u_54 H locs hr_53 hP hD hS => ?_)
        obtain ⟨q_55, q_56⟩ := u_54
        try dsimp only at hr_53
        obtain ⟨hbq_55, hr_53⟩ := hr_53
        have h9R := zRe (ws' := [(mki, .inl (cI, 8, .inl gki)), (mpa, .inl (cI, 8, .inl gpa)), (zMO m0 npu nte nat_ nde nto nse nhu nga nsd nfa mrf mki mpa mta mla msl mco mhe mso msi msh mce mca mwo mnu mte nba npl nen nnu nwr mwa mke mma mth mtr q_55 nik), (mtr, .inl (cI, 20, .inl q_56))]) hP hD rfl
        clear hP hD
        obtain ⟨hP, hD⟩ := h9R
        refine lv_iload_n hx hb dX8_freeing_43 rfl (lv_at hl 4 rfl) ?_
        refine lv_iconst (v := 1) hx hb dX8_freeing_44 (by decide) ?_
        refine lv_iadd hx hb dX8_freeing_45 ?_
        refine lv_topi (fun x_57 ex_57 => ?_)
        refine lv_istore (lv' := [(4, .int x_57), (3, .int 3), (0, .ref m0), (1, .int p_), (2, .int x)]) hx hb dX8_freeing_46 hl (by decide) rfl (fun ls hl => ?_)
        refine lv_iload_n hx hb dX8_freeing_48 rfl (lv_at hl 1 rfl) ?_
        refine lv_iconst (v := 2) hx hb dX8_freeing_49 (by decide) ?_
        refine lv_icmp_eq (tgt := 58) hx hb dX8_freeing_50 (by decide) (fun c_58 => ?_) (fun c_58 => ?_)
        · exact absurd c_58 (by decide)
        · refine lv_iload_n hx hb dX8_freeing_53 rfl (lv_at hl 1 rfl) ?_
          refine lv_iconst (v := 5) hx hb dX8_freeing_54 (by decide) ?_
          refine lv_icmp_ne (tgt := 62) hx hb dX8_freeing_55 (by decide) (fun c_59 => ?_) (fun c_59 => ?_)
          · refine lv_iconst (v := 0) hx hb dX8_freeing_62 (by decide) ?_
            refine lv_istore (lv' := [(5, .int 0), (4, .int x_57), (3, .int 3), (0, .ref m0), (1, .int p_), (2, .int x)]) hx hb dX8_freeing_63 hl (by decide) rfl (fun ls hl => ?_)
            refine lv_iload hx hb dX8_freeing_65 (lv_at hl 0 rfl) ?_
            refine lv_if_eq (tgt := 76) hx hb dX8_freeing_67 (by decide) (fun c_60 => ?_) (fun c_60 => ?_)
            · refine lv_aload_n hx hb dX8_freeing_76 rfl (lv_at hl 3 rfl) ?_
              refine lv_bipush (v := 11) hx hb dX8_freeing_77 (by decide) ?_
              skip
              refine zw_Vv (As := [.int 11]) (rest := []) (wr := [(mki, .inl (cI, 8, .inl gki)), (mpa, .inl (cI, 8, .inl gpa))]) ⟨hx, hb, hml, hown, hts⟩ (c_M_body l D cI cJ cZ cP cS po m0 mrf mki mpa mta mla msl mco mhe mso msi msh mce mca mwo mnu mte mwa mke mma mth mtr (npu) (nte) (nat_) (nde) (nto) (nse) (nhu) (nga) (nsd) (nfa) (nba) (npl) (nen) (nnu) (nwr) (q_55) (nik) q_56 (11) hy0 hy1 hy2 hy3 hy4 hy5 hy6 hy7 hy8 hy9 (by omega) (by omega) hy12 hy13 H.size) (cwV 1 hts gX8_freeing_X8_body rfl rfl rfl ⟨rfl, dh_X8_body⟩ ⟨Nat.le_of_ble_eq_true rfl, Nat.le_of_ble_eq_true rfl⟩) hK hN (hZ.kept hS) hP hD hS hA [2, 3] [0, 1] rfl rfl (by decide) (by decide) (by decide) (va_recv (q := (RX8, TX8, 38)) hK hP (ci := 8) (q0 := 2) rfl rfl) rfl hl.1 rfl (Nat.le_of_ble_eq_true rfl) dX8_freeing_79 ⟨Nat.le_of_ble_eq_true rfl, Nat.le_of_ble_eq_true rfl⟩ (fun u_62 H locs hr_61 hP hD hS => ?_)
              obtain ⟨q_63, q_64⟩ := u_62
              try dsimp only at hr_61
              obtain ⟨hbq_63, hr_61⟩ := hr_61
              have h9R := zRe (ws' := [(mki, .inl (cI, 8, .inl gki)), (mpa, .inl (cI, 8, .inl gpa)), (zMO m0 npu nte nat_ nde nto nse nhu nga nsd nfa mrf mki mpa mta mla msl mco mhe mso msi msh mce mca mwo mnu mte nba npl nen nnu nwr mwa mke mma mth mtr q_63 nik), (mtr, .inl (cI, 20, .inl q_64))]) hP hD rfl
              clear hP hD
              obtain ⟨hP, hD⟩ := h9R
              refine lv_aload_n hx hb dX8_freeing_82 rfl (lv_at hl 3 rfl) ?_
              refine lv_iload_n hx hb dX8_freeing_83 rfl (lv_at hl 4 rfl) ?_
              refine lv_iload hx hb dX8_freeing_84 (lv_at hl 1 rfl) ?_
              skip
              refine zw_V (As := [.int p_, .int x_57]) (rest := []) (wr := []) ⟨hx, hb, hml, hown, hts⟩ (c_M_pulling l D cI cJ cZ cP cS po m0 mrf mki mpa mta mla msl mco mhe mso msi msh mce mca mwo mnu mte mwa mke mma mth mtr (npu) (nte) (nat_) (nde) (nto) (nse) (nhu) (nga) (nsd) (nfa) (nba) (npl) (nen) (nnu) (nwr) (q_63) (nik) gki gpa q_64 (p_) (x_57) hy0 hy1 hy2 hy3 hy4 hy5 hy6 hy7 hy8 hy9 (by omega) (by omega) hy12 hy13 hy14 hy15 (by omega) (by omega) hp_gki hp_gpa H.size) (cwV 2 hts gX8_freeing_X8_pulling rfl rfl rfl ⟨rfl, dh_X8_pulling⟩ ⟨Nat.le_of_ble_eq_true rfl, Nat.le_of_ble_eq_true rfl⟩) hK hN (hZ.kept hS) hP hD hS hA [2, 0, 1, 3] [] rfl rfl (by decide) (by decide) (by decide) (va_recv (q := (RX8, TX8, 38)) hK hP (ci := 8) (q0 := 2) rfl rfl) rfl hl.1 rfl (Nat.le_of_ble_eq_true rfl) dX8_freeing_86 ⟨Nat.le_of_ble_eq_true rfl, Nat.le_of_ble_eq_true rfl⟩ (fun r_65 u_66 H locs hr_65 hP hD hS => ?_)
              obtain ⟨q_67, q_68⟩ := u_66
              try dsimp only at hr_65
              obtain ⟨hbq_67, hsr_65_0, hr_65⟩ := hr_65
              have h9R := zRe (ws' := [(zMO m0 npu nte nat_ nde nto nse nhu nga nsd nfa mrf mki mpa mta mla msl mco mhe mso msi msh mce mca mwo mnu mte nba npl nen nnu nwr mwa mke mma mth mtr q_67 nik), (mki, .inl (cI, 8, .inl gki)), (mpa, .inl (cI, 8, .inl gpa)), (mtr, .inl (cI, 20, .inl q_68))]) hP hD rfl
              clear hP hD
              obtain ⟨hP, hD⟩ := h9R
              refine lv_iconst (v := 2) hx hb dX8_freeing_89 (by decide) ?_
              refine lv_imul hx hb dX8_freeing_90 ?_
              refine lv_topi (fun x_69 ex_69 => ?_)
              refine lv_istore (lv' := [(6, .int x_69), (5, .int 0), (4, .int x_57), (3, .int 3), (0, .ref m0), (1, .int p_), (2, .int x)]) hx hb dX8_freeing_91 hl (by decide) rfl (fun ls hl => ?_)
              refine lv_iload hx hb dX8_freeing_93 (lv_at hl 1 rfl) ?_
              refine lv_if_eq (tgt := 105) hx hb dX8_freeing_95 (by decide) (fun c_70 => ?_) (fun c_70 => ?_)
              · refine lv_iload hx hb dX8_freeing_105 (lv_at hl 0 rfl) ?_
                exact W.iret (v := x_69) hx hb hr (fun t ht hW => ⟨⟨x_69, (q_67, q_68), rfl, ⟨(show 0 ≤ q_67.toInt ∧ q_67.toInt ≤ 2000 from hbq_67), (show q_67.toInt ≤ nra.toInt + 8 from by omega), trivial⟩, zRet ht hP hD [0, 1, 2, 3] (by decide) rfl⟩, hS.F ht⟩) hS.2.2 dX8_freeing_107
              · exact absurd c_70 (by decide)
            · exact absurd c_60 (by decide)
          · exact absurd c_59 (by decide)
    · exact absurd c_51 (by decide)
  · have kc4 : (4 : Int32).toInt = 4 := by decide
    refine lv_iload_n hx hb dX8_freeing_7 rfl (lv_at hl 3 rfl) ?_
    refine lv_istore (lv' := [(4, .int x), (3, .int 4), (0, .ref m0), (1, .int p_), (2, .int x)]) hx hb dX8_freeing_8 hl (by decide) rfl (fun ls hl => ?_)
    refine lv_iload_n hx hb dX8_freeing_10 rfl (lv_at hl 1 rfl) ?_
    refine lv_bipush (v := 6) hx hb dX8_freeing_11 (by decide) ?_
    refine lv_icmp_ne (tgt := 32) hx hb dX8_freeing_13 (by decide) (fun c_71 => ?_) (fun c_71 => ?_)
    · refine lv_iload_n hx hb dX8_freeing_32 rfl (lv_at hl 1 rfl) ?_
      refine lv_iconst (v := 3) hx hb dX8_freeing_33 (by decide) ?_
      refine lv_icmp_ne (tgt := 48) hx hb dX8_freeing_34 (by decide) (fun c_72 => ?_) (fun c_72 => ?_)
      · refine lv_iload_n hx hb dX8_freeing_48 rfl (lv_at hl 1 rfl) ?_
        refine lv_iconst (v := 2) hx hb dX8_freeing_49 (by decide) ?_
        refine lv_icmp_eq (tgt := 58) hx hb dX8_freeing_50 (by decide) (fun c_73 => ?_) (fun c_73 => ?_)
        · exact absurd c_73 (by decide)
        · refine lv_iload_n hx hb dX8_freeing_53 rfl (lv_at hl 1 rfl) ?_
          refine lv_iconst (v := 5) hx hb dX8_freeing_54 (by decide) ?_
          refine lv_icmp_ne (tgt := 62) hx hb dX8_freeing_55 (by decide) (fun c_74 => ?_) (fun c_74 => ?_)
          · refine lv_iconst (v := 0) hx hb dX8_freeing_62 (by decide) ?_
            refine lv_istore (lv' := [(5, .int 0), (4, .int x), (3, .int 4), (0, .ref m0), (1, .int p_), (2, .int x)]) hx hb dX8_freeing_63 hl (by decide) rfl (fun ls hl => ?_)
            refine lv_iload hx hb dX8_freeing_65 (lv_at hl 0 rfl) ?_
            refine lv_if_eq (tgt := 76) hx hb dX8_freeing_67 (by decide) (fun c_75 => ?_) (fun c_75 => ?_)
            · refine lv_aload_n hx hb dX8_freeing_76 rfl (lv_at hl 3 rfl) ?_
              refine lv_bipush (v := 11) hx hb dX8_freeing_77 (by decide) ?_
              skip
              refine zw_Vv (As := [.int 11]) (rest := []) (wr := [(mki, .inl (cI, 8, .inl gki)), (mpa, .inl (cI, 8, .inl gpa))]) ⟨hx, hb, hml, hown, hts⟩ (c_M_body l D cI cJ cZ cP cS po m0 mrf mki mpa mta mla msl mco mhe mso msi msh mce mca mwo mnu mte mwa mke mma mth mtr (npu) (nte) (nat_) (nde) (nto) (nse) (nhu) (nga) (nsd) (nfa) (nba) (npl) (nen) (nnu) (nwr) (nra) (nik) gtr (11) hy0 hy1 hy2 hy3 hy4 hy5 hy6 hy7 hy8 hy9 hy10 hy11 hy12 hy13 H.size) (cwV 1 hts gX8_freeing_X8_body rfl rfl rfl ⟨rfl, dh_X8_body⟩ ⟨Nat.le_of_ble_eq_true rfl, Nat.le_of_ble_eq_true rfl⟩) hK hN (hZ.kept hS) hP hD hS hA [0, 3] [1, 2] rfl rfl (by decide) (by decide) (by decide) (va_recv (q := (RX8, TX8, 38)) hK hP (ci := 8) (q0 := 0) rfl rfl) rfl hl.1 rfl (Nat.le_of_ble_eq_true rfl) dX8_freeing_79 ⟨Nat.le_of_ble_eq_true rfl, Nat.le_of_ble_eq_true rfl⟩ (fun u_77 H locs hr_76 hP hD hS => ?_)
              obtain ⟨q_78, q_79⟩ := u_77
              try dsimp only at hr_76
              obtain ⟨hbq_78, hr_76⟩ := hr_76
              have h9R := zRe (ws' := [(mki, .inl (cI, 8, .inl gki)), (mpa, .inl (cI, 8, .inl gpa)), (zMO m0 npu nte nat_ nde nto nse nhu nga nsd nfa mrf mki mpa mta mla msl mco mhe mso msi msh mce mca mwo mnu mte nba npl nen nnu nwr mwa mke mma mth mtr q_78 nik), (mtr, .inl (cI, 20, .inl q_79))]) hP hD rfl
              clear hP hD
              obtain ⟨hP, hD⟩ := h9R
              refine lv_aload_n hx hb dX8_freeing_82 rfl (lv_at hl 3 rfl) ?_
              refine lv_iload_n hx hb dX8_freeing_83 rfl (lv_at hl 4 rfl) ?_
              refine lv_iload hx hb dX8_freeing_84 (lv_at hl 1 rfl) ?_
              skip
              refine zw_V (As := [.int p_, .int x]) (rest := []) (wr := []) ⟨hx, hb, hml, hown, hts⟩ (c_M_pulling l D cI cJ cZ cP cS po m0 mrf mki mpa mta mla msl mco mhe mso msi msh mce mca mwo mnu mte mwa mke mma mth mtr (npu) (nte) (nat_) (nde) (nto) (nse) (nhu) (nga) (nsd) (nfa) (nba) (npl) (nen) (nnu) (nwr) (q_78) (nik) gki gpa q_79 (p_) (x) hy0 hy1 hy2 hy3 hy4 hy5 hy6 hy7 hy8 hy9 (by omega) (by omega) hy12 hy13 hy14 hy15 (by omega) (by omega) hp_gki hp_gpa H.size) (cwV 2 hts gX8_freeing_X8_pulling rfl rfl rfl ⟨rfl, dh_X8_pulling⟩ ⟨Nat.le_of_ble_eq_true rfl, Nat.le_of_ble_eq_true rfl⟩) hK hN (hZ.kept hS) hP hD hS hA [2, 0, 1, 3] [] rfl rfl (by decide) (by decide) (by decide) (va_recv (q := (RX8, TX8, 38)) hK hP (ci := 8) (q0 := 2) rfl rfl) rfl hl.1 rfl (Nat.le_of_ble_eq_true rfl) dX8_freeing_86 ⟨Nat.le_of_ble_eq_true rfl, Nat.le_of_ble_eq_true rfl⟩ (fun r_80 u_81 H locs hr_80 hP hD hS => ?_)
              obtain ⟨q_82, q_83⟩ := u_81
              try dsimp only at hr_80
              obtain ⟨hbq_82, hsr_80_0, hr_80⟩ := hr_80
              have h9R := zRe (ws' := [(zMO m0 npu nte nat_ nde nto nse nhu nga nsd nfa mrf mki mpa mta mla msl mco mhe mso msi msh mce mca mwo mnu mte nba npl nen nnu nwr mwa mke mma mth mtr q_82 nik), (mki, .inl (cI, 8, .inl gki)), (mpa, .inl (cI, 8, .inl gpa)), (mtr, .inl (cI, 20, .inl q_83))]) hP hD rfl
              clear hP hD
              obtain ⟨hP, hD⟩ := h9R
              refine lv_iconst (v := 2) hx hb dX8_freeing_89 (by decide) ?_
              refine lv_imul hx hb dX8_freeing_90 ?_
              refine lv_topi (fun x_84 ex_84 => ?_)
              refine lv_istore (lv' := [(6, .int x_84), (5, .int 0), (4, .int x), (3, .int 4), (0, .ref m0), (1, .int p_), (2, .int x)]) hx hb dX8_freeing_91 hl (by decide) rfl (fun ls hl => ?_)
              refine lv_iload hx hb dX8_freeing_93 (lv_at hl 1 rfl) ?_
              refine lv_if_eq (tgt := 105) hx hb dX8_freeing_95 (by decide) (fun c_85 => ?_) (fun c_85 => ?_)
              · refine lv_iload hx hb dX8_freeing_105 (lv_at hl 0 rfl) ?_
                exact W.iret (v := x_84) hx hb hr (fun t ht hW => ⟨⟨x_84, (q_82, q_83), rfl, ⟨(show 0 ≤ q_82.toInt ∧ q_82.toInt ≤ 2000 from hbq_82), (show q_82.toInt ≤ nra.toInt + 8 from by omega), trivial⟩, zRet ht hP hD [0, 1, 2, 3] (by decide) rfl⟩, hS.F ht⟩) hS.2.2 dX8_freeing_107
              · exact absurd c_85 (by decide)
            · exact absurd c_75 (by decide)
          · exact absurd c_74 (by decide)
      · exact absurd c_72 (by decide)
    · exact absurd c_71 (by decide)
  · have kc5 : (5 : Int32).toInt = 5 := by decide
    refine lv_iload_n hx hb dX8_freeing_7 rfl (lv_at hl 3 rfl) ?_
    refine lv_istore (lv' := [(4, .int x), (3, .int 5), (0, .ref m0), (1, .int p_), (2, .int x)]) hx hb dX8_freeing_8 hl (by decide) rfl (fun ls hl => ?_)
    refine lv_iload_n hx hb dX8_freeing_10 rfl (lv_at hl 1 rfl) ?_
    refine lv_bipush (v := 6) hx hb dX8_freeing_11 (by decide) ?_
    refine lv_icmp_ne (tgt := 32) hx hb dX8_freeing_13 (by decide) (fun c_86 => ?_) (fun c_86 => ?_)
    · refine lv_iload_n hx hb dX8_freeing_32 rfl (lv_at hl 1 rfl) ?_
      refine lv_iconst (v := 3) hx hb dX8_freeing_33 (by decide) ?_
      refine lv_icmp_ne (tgt := 48) hx hb dX8_freeing_34 (by decide) (fun c_87 => ?_) (fun c_87 => ?_)
      · refine lv_iload_n hx hb dX8_freeing_48 rfl (lv_at hl 1 rfl) ?_
        refine lv_iconst (v := 2) hx hb dX8_freeing_49 (by decide) ?_
        refine lv_icmp_eq (tgt := 58) hx hb dX8_freeing_50 (by decide) (fun c_88 => ?_) (fun c_88 => ?_)
        · exact absurd c_88 (by decide)
        · refine lv_iload_n hx hb dX8_freeing_53 rfl (lv_at hl 1 rfl) ?_
          refine lv_iconst (v := 5) hx hb dX8_freeing_54 (by decide) ?_
          refine lv_icmp_ne (tgt := 62) hx hb dX8_freeing_55 (by decide) (fun c_89 => ?_) (fun c_89 => ?_)
          · exact absurd c_89 (by decide)
          · refine lv_iconst (v := 1) hx hb dX8_freeing_58 (by decide) ?_
            refine lv_goto (tgt := 63) hx hb dX8_freeing_59 (by decide) ?_
            refine lv_istore (lv' := [(5, .int 1), (4, .int x), (3, .int 5), (0, .ref m0), (1, .int p_), (2, .int x)]) hx hb dX8_freeing_63 hl (by decide) rfl (fun ls hl => ?_)
            refine lv_iload hx hb dX8_freeing_65 (lv_at hl 0 rfl) ?_
            refine lv_if_eq (tgt := 76) hx hb dX8_freeing_67 (by decide) (fun c_90 => ?_) (fun c_90 => ?_)
            · exact absurd c_90 (by decide)
            · refine lv_aload_n hx hb dX8_freeing_70 rfl (lv_at hl 3 rfl) ?_
              refine lv_bipush (v := 30) hx hb dX8_freeing_71 (by decide) ?_
              skip
              refine zw_Vv (As := [.int 30]) (rest := []) (wr := [(mki, .inl (cI, 8, .inl gki)), (mpa, .inl (cI, 8, .inl gpa))]) ⟨hx, hb, hml, hown, hts⟩ (c_M_body l D cI cJ cZ cP cS po m0 mrf mki mpa mta mla msl mco mhe mso msi msh mce mca mwo mnu mte mwa mke mma mth mtr (npu) (nte) (nat_) (nde) (nto) (nse) (nhu) (nga) (nsd) (nfa) (nba) (npl) (nen) (nnu) (nwr) (nra) (nik) gtr (30) hy0 hy1 hy2 hy3 hy4 hy5 hy6 hy7 hy8 hy9 hy10 hy11 hy12 hy13 H.size) (cwV 1 hts gX8_freeing_X8_body rfl rfl rfl ⟨rfl, dh_X8_body⟩ ⟨Nat.le_of_ble_eq_true rfl, Nat.le_of_ble_eq_true rfl⟩) hK hN (hZ.kept hS) hP hD hS hA [0, 3] [1, 2] rfl rfl (by decide) (by decide) (by decide) (va_recv (q := (RX8, TX8, 38)) hK hP (ci := 8) (q0 := 0) rfl rfl) rfl hl.1 rfl (Nat.le_of_ble_eq_true rfl) dX8_freeing_73 ⟨Nat.le_of_ble_eq_true rfl, Nat.le_of_ble_eq_true rfl⟩ (fun u_92 H locs hr_91 hP hD hS => ?_)
              obtain ⟨q_93, q_94⟩ := u_92
              try dsimp only at hr_91
              obtain ⟨hbq_93, hr_91⟩ := hr_91
              have h9R := zRe (ws' := [(mki, .inl (cI, 8, .inl gki)), (mpa, .inl (cI, 8, .inl gpa)), (zMO m0 npu nte nat_ nde nto nse nhu nga nsd nfa mrf mki mpa mta mla msl mco mhe mso msi msh mce mca mwo mnu mte nba npl nen nnu nwr mwa mke mma mth mtr q_93 nik), (mtr, .inl (cI, 20, .inl q_94))]) hP hD rfl
              clear hP hD
              obtain ⟨hP, hD⟩ := h9R
              refine lv_aload_n hx hb dX8_freeing_76 rfl (lv_at hl 3 rfl) ?_
              refine lv_bipush (v := 11) hx hb dX8_freeing_77 (by decide) ?_
              skip
              refine zw_Vv (As := [.int 11]) (rest := []) (wr := [(mki, .inl (cI, 8, .inl gki)), (mpa, .inl (cI, 8, .inl gpa))]) ⟨hx, hb, hml, hown, hts⟩ (c_M_body l D cI cJ cZ cP cS po m0 mrf mki mpa mta mla msl mco mhe mso msi msh mce mca mwo mnu mte mwa mke mma mth mtr (npu) (nte) (nat_) (nde) (nto) (nse) (nhu) (nga) (nsd) (nfa) (nba) (npl) (nen) (nnu) (nwr) (q_93) (nik) q_94 (11) hy0 hy1 hy2 hy3 hy4 hy5 hy6 hy7 hy8 hy9 (by omega) (by omega) hy12 hy13 H.size) (cwV 1 hts gX8_freeing_X8_body rfl rfl rfl ⟨rfl, dh_X8_body⟩ ⟨Nat.le_of_ble_eq_true rfl, Nat.le_of_ble_eq_true rfl⟩) hK hN (hZ.kept hS) hP hD hS hA [2, 3] [0, 1] rfl rfl (by decide) (by decide) (by decide) (va_recv (q := (RX8, TX8, 38)) hK hP (ci := 8) (q0 := 2) rfl rfl) rfl hl.1 rfl (Nat.le_of_ble_eq_true rfl) dX8_freeing_79 ⟨Nat.le_of_ble_eq_true rfl, Nat.le_of_ble_eq_true rfl⟩ (fun u_96 H locs hr_95 hP hD hS => ?_)
              obtain ⟨q_97, q_98⟩ := u_96
              try dsimp only at hr_95
              obtain ⟨hbq_97, hr_95⟩ := hr_95
              have h9R := zRe (ws' := [(mki, .inl (cI, 8, .inl gki)), (mpa, .inl (cI, 8, .inl gpa)), (zMO m0 npu nte nat_ nde nto nse nhu nga nsd nfa mrf mki mpa mta mla msl mco mhe mso msi msh mce mca mwo mnu mte nba npl nen nnu nwr mwa mke mma mth mtr q_97 nik), (mtr, .inl (cI, 20, .inl q_98))]) hP hD rfl
              clear hP hD
              obtain ⟨hP, hD⟩ := h9R
              refine lv_aload_n hx hb dX8_freeing_82 rfl (lv_at hl 3 rfl) ?_
              refine lv_iload_n hx hb dX8_freeing_83 rfl (lv_at hl 4 rfl) ?_
              refine lv_iload hx hb dX8_freeing_84 (lv_at hl 1 rfl) ?_
              skip
              refine zw_V (As := [.int p_, .int x]) (rest := []) (wr := []) ⟨hx, hb, hml, hown, hts⟩ (c_M_pulling l D cI cJ cZ cP cS po m0 mrf mki mpa mta mla msl mco mhe mso msi msh mce mca mwo mnu mte mwa mke mma mth mtr (npu) (nte) (nat_) (nde) (nto) (nse) (nhu) (nga) (nsd) (nfa) (nba) (npl) (nen) (nnu) (nwr) (q_97) (nik) gki gpa q_98 (p_) (x) hy0 hy1 hy2 hy3 hy4 hy5 hy6 hy7 hy8 hy9 (by omega) (by omega) hy12 hy13 hy14 hy15 (by omega) (by omega) hp_gki hp_gpa H.size) (cwV 2 hts gX8_freeing_X8_pulling rfl rfl rfl ⟨rfl, dh_X8_pulling⟩ ⟨Nat.le_of_ble_eq_true rfl, Nat.le_of_ble_eq_true rfl⟩) hK hN (hZ.kept hS) hP hD hS hA [2, 0, 1, 3] [] rfl rfl (by decide) (by decide) (by decide) (va_recv (q := (RX8, TX8, 38)) hK hP (ci := 8) (q0 := 2) rfl rfl) rfl hl.1 rfl (Nat.le_of_ble_eq_true rfl) dX8_freeing_86 ⟨Nat.le_of_ble_eq_true rfl, Nat.le_of_ble_eq_true rfl⟩ (fun r_99 u_100 H locs hr_99 hP hD hS => ?_)
              obtain ⟨q_101, q_102⟩ := u_100
              try dsimp only at hr_99
              obtain ⟨hbq_101, hsr_99_0, hr_99⟩ := hr_99
              have h9R := zRe (ws' := [(zMO m0 npu nte nat_ nde nto nse nhu nga nsd nfa mrf mki mpa mta mla msl mco mhe mso msi msh mce mca mwo mnu mte nba npl nen nnu nwr mwa mke mma mth mtr q_101 nik), (mki, .inl (cI, 8, .inl gki)), (mpa, .inl (cI, 8, .inl gpa)), (mtr, .inl (cI, 20, .inl q_102))]) hP hD rfl
              clear hP hD
              obtain ⟨hP, hD⟩ := h9R
              refine lv_iconst (v := 2) hx hb dX8_freeing_89 (by decide) ?_
              refine lv_imul hx hb dX8_freeing_90 ?_
              refine lv_topi (fun x_103 ex_103 => ?_)
              refine lv_istore (lv' := [(6, .int x_103), (5, .int 1), (4, .int x), (3, .int 5), (0, .ref m0), (1, .int p_), (2, .int x)]) hx hb dX8_freeing_91 hl (by decide) rfl (fun ls hl => ?_)
              refine lv_iload hx hb dX8_freeing_93 (lv_at hl 1 rfl) ?_
              refine lv_if_eq (tgt := 105) hx hb dX8_freeing_95 (by decide) (fun c_104 => ?_) (fun c_104 => ?_)
              · exact absurd c_104 (by decide)
              · refine lv_iload hx hb dX8_freeing_98 (lv_at hl 0 rfl) ?_
                refine lv_iconst (v := 3) hx hb dX8_freeing_100 (by decide) ?_
                refine lv_imul hx hb dX8_freeing_101 ?_
                refine lv_topi (fun x_105 ex_105 => ?_)
                refine lv_goto (tgt := 107) hx hb dX8_freeing_102 (by decide) ?_
                exact W.iret (v := x_105) hx hb hr (fun t ht hW => ⟨⟨x_105, (q_101, q_102), rfl, ⟨(show 0 ≤ q_101.toInt ∧ q_101.toInt ≤ 2000 from hbq_101), (show q_101.toInt ≤ nra.toInt + 8 from by omega), trivial⟩, zRet ht hP hD [0, 1, 2, 3] (by decide) rfl⟩, hS.F ht⟩) hS.2.2 dX8_freeing_107
      · exact absurd c_87 (by decide)
    · exact absurd c_86 (by decide)
  · have kc6 : (6 : Int32).toInt = 6 := by decide
    refine lv_iload_n hx hb dX8_freeing_7 rfl (lv_at hl 3 rfl) ?_
    refine lv_istore (lv' := [(4, .int x), (3, .int 6), (0, .ref m0), (1, .int p_), (2, .int x)]) hx hb dX8_freeing_8 hl (by decide) rfl (fun ls hl => ?_)
    refine lv_iload_n hx hb dX8_freeing_10 rfl (lv_at hl 1 rfl) ?_
    refine lv_bipush (v := 6) hx hb dX8_freeing_11 (by decide) ?_
    refine lv_icmp_ne (tgt := 32) hx hb dX8_freeing_13 (by decide) (fun c_106 => ?_) (fun c_106 => ?_)
    · exact absurd c_106 (by decide)
    · refine lv_aload_n hx hb dX8_freeing_16 rfl (lv_at hl 2 rfl) ?_
      refine lv_bipush (v := 71) hx hb dX8_freeing_17 (by decide) ?_
      skip
      refine zw_Vv (As := [.int 71]) (rest := []) (wr := [(mki, .inl (cI, 8, .inl gki)), (mpa, .inl (cI, 8, .inl gpa))]) ⟨hx, hb, hml, hown, hts⟩ (c_M_body l D cI cJ cZ cP cS po m0 mrf mki mpa mta mla msl mco mhe mso msi msh mce mca mwo mnu mte mwa mke mma mth mtr (npu) (nte) (nat_) (nde) (nto) (nse) (nhu) (nga) (nsd) (nfa) (nba) (npl) (nen) (nnu) (nwr) (nra) (nik) gtr (71) hy0 hy1 hy2 hy3 hy4 hy5 hy6 hy7 hy8 hy9 hy10 hy11 hy12 hy13 H.size) (cwV 1 hts gX8_freeing_X8_body rfl rfl rfl ⟨rfl, dh_X8_body⟩ ⟨Nat.le_of_ble_eq_true rfl, Nat.le_of_ble_eq_true rfl⟩) hK hN (hZ.kept hS) hP hD hS hA [0, 3] [1, 2] rfl rfl (by decide) (by decide) (by decide) (va_recv (q := (RX8, TX8, 38)) hK hP (ci := 8) (q0 := 0) rfl rfl) rfl hl.1 rfl (Nat.le_of_ble_eq_true rfl) dX8_freeing_19 ⟨Nat.le_of_ble_eq_true rfl, Nat.le_of_ble_eq_true rfl⟩ (fun u_108 H locs hr_107 hP hD hS => ?_)
      obtain ⟨q_109, q_110⟩ := u_108
      try dsimp only at hr_107
      obtain ⟨hbq_109, hr_107⟩ := hr_107
      have h9R := zRe (ws' := [(mki, .inl (cI, 8, .inl gki)), (mpa, .inl (cI, 8, .inl gpa)), (zMO m0 npu nte nat_ nde nto nse nhu nga nsd nfa mrf mki mpa mta mla msl mco mhe mso msi msh mce mca mwo mnu mte nba npl nen nnu nwr mwa mke mma mth mtr q_109 nik), (mtr, .inl (cI, 20, .inl q_110))]) hP hD rfl
      clear hP hD
      obtain ⟨hP, hD⟩ := h9R
      refine lv_iload_n hx hb dX8_freeing_22 rfl (lv_at hl 4 rfl) ?_
      refine lv_aload_n hx hb dX8_freeing_23 rfl (lv_at hl 2 rfl) ?_
      refine va_get (D := D) (ci := 8) (v := .ref mpa) (C := RX8) (T := TX8) (N := 38) hx hb hts hi_X8_freeing_8 hown hK hP 2 rfl rfl 12 (by decide) (hts (.fieldLink RX8 32 "TheLiningsInItModel" "part" "[I") (List.mem_of_getElem? (i := 2) rfl)) (fun _ h9 => h9) rfl dX8_freeing_24 ?_
      refine lv_iload_n hx hb dX8_freeing_27 rfl (lv_at hl 3 rfl) ?_
      refine va_iald hx hb hK hP 1 0 rfl rfl (zf_in (by omega) (by omega)) dX8_freeing_28 ?_
      refine lv_topi (fun x_111 ex_111 => ?_)
      have bx_111 : 0 ≤ x_111.toInt ∧ x_111.toInt ≤ 9 := by rw [ex_111]; exact hp_gpa _
      refine lv_isub hx hb dX8_freeing_29 ?_
      refine lv_topi (fun x_112 ex_112 => ?_)
      refine lv_istore (lv' := [(4, .int x_112), (3, .int 6), (0, .ref m0), (1, .int p_), (2, .int x)]) hx hb dX8_freeing_30 hl (by decide) rfl (fun ls hl => ?_)
      refine lv_iload_n hx hb dX8_freeing_32 rfl (lv_at hl 1 rfl) ?_
      refine lv_iconst (v := 3) hx hb dX8_freeing_33 (by decide) ?_
      refine lv_icmp_ne (tgt := 48) hx hb dX8_freeing_34 (by decide) (fun c_113 => ?_) (fun c_113 => ?_)
      · refine lv_iload_n hx hb dX8_freeing_48 rfl (lv_at hl 1 rfl) ?_
        refine lv_iconst (v := 2) hx hb dX8_freeing_49 (by decide) ?_
        refine lv_icmp_eq (tgt := 58) hx hb dX8_freeing_50 (by decide) (fun c_114 => ?_) (fun c_114 => ?_)
        · exact absurd c_114 (by decide)
        · refine lv_iload_n hx hb dX8_freeing_53 rfl (lv_at hl 1 rfl) ?_
          refine lv_iconst (v := 5) hx hb dX8_freeing_54 (by decide) ?_
          refine lv_icmp_ne (tgt := 62) hx hb dX8_freeing_55 (by decide) (fun c_115 => ?_) (fun c_115 => ?_)
          · refine lv_iconst (v := 0) hx hb dX8_freeing_62 (by decide) ?_
            refine lv_istore (lv' := [(5, .int 0), (4, .int x_112), (3, .int 6), (0, .ref m0), (1, .int p_), (2, .int x)]) hx hb dX8_freeing_63 hl (by decide) rfl (fun ls hl => ?_)
            refine lv_iload hx hb dX8_freeing_65 (lv_at hl 0 rfl) ?_
            refine lv_if_eq (tgt := 76) hx hb dX8_freeing_67 (by decide) (fun c_116 => ?_) (fun c_116 => ?_)
            · refine lv_aload_n hx hb dX8_freeing_76 rfl (lv_at hl 3 rfl) ?_
              refine lv_bipush (v := 11) hx hb dX8_freeing_77 (by decide) ?_
              skip
              refine zw_Vv (As := [.int 11]) (rest := []) (wr := [(mki, .inl (cI, 8, .inl gki)), (mpa, .inl (cI, 8, .inl gpa))]) ⟨hx, hb, hml, hown, hts⟩ (c_M_body l D cI cJ cZ cP cS po m0 mrf mki mpa mta mla msl mco mhe mso msi msh mce mca mwo mnu mte mwa mke mma mth mtr (npu) (nte) (nat_) (nde) (nto) (nse) (nhu) (nga) (nsd) (nfa) (nba) (npl) (nen) (nnu) (nwr) (q_109) (nik) q_110 (11) hy0 hy1 hy2 hy3 hy4 hy5 hy6 hy7 hy8 hy9 (by omega) (by omega) hy12 hy13 H.size) (cwV 1 hts gX8_freeing_X8_body rfl rfl rfl ⟨rfl, dh_X8_body⟩ ⟨Nat.le_of_ble_eq_true rfl, Nat.le_of_ble_eq_true rfl⟩) hK hN (hZ.kept hS) hP hD hS hA [2, 3] [0, 1] rfl rfl (by decide) (by decide) (by decide) (va_recv (q := (RX8, TX8, 38)) hK hP (ci := 8) (q0 := 2) rfl rfl) rfl hl.1 rfl (Nat.le_of_ble_eq_true rfl) dX8_freeing_79 ⟨Nat.le_of_ble_eq_true rfl, Nat.le_of_ble_eq_true rfl⟩ (fun u_118 H locs hr_117 hP hD hS => ?_)
              obtain ⟨q_119, q_120⟩ := u_118
              try dsimp only at hr_117
              obtain ⟨hbq_119, hr_117⟩ := hr_117
              have h9R := zRe (ws' := [(mki, .inl (cI, 8, .inl gki)), (mpa, .inl (cI, 8, .inl gpa)), (zMO m0 npu nte nat_ nde nto nse nhu nga nsd nfa mrf mki mpa mta mla msl mco mhe mso msi msh mce mca mwo mnu mte nba npl nen nnu nwr mwa mke mma mth mtr q_119 nik), (mtr, .inl (cI, 20, .inl q_120))]) hP hD rfl
              clear hP hD
              obtain ⟨hP, hD⟩ := h9R
              refine lv_aload_n hx hb dX8_freeing_82 rfl (lv_at hl 3 rfl) ?_
              refine lv_iload_n hx hb dX8_freeing_83 rfl (lv_at hl 4 rfl) ?_
              refine lv_iload hx hb dX8_freeing_84 (lv_at hl 1 rfl) ?_
              skip
              refine zw_V (As := [.int p_, .int x_112]) (rest := []) (wr := []) ⟨hx, hb, hml, hown, hts⟩ (c_M_pulling l D cI cJ cZ cP cS po m0 mrf mki mpa mta mla msl mco mhe mso msi msh mce mca mwo mnu mte mwa mke mma mth mtr (npu) (nte) (nat_) (nde) (nto) (nse) (nhu) (nga) (nsd) (nfa) (nba) (npl) (nen) (nnu) (nwr) (q_119) (nik) gki gpa q_120 (p_) (x_112) hy0 hy1 hy2 hy3 hy4 hy5 hy6 hy7 hy8 hy9 (by omega) (by omega) hy12 hy13 hy14 hy15 (by omega) (by omega) hp_gki hp_gpa H.size) (cwV 2 hts gX8_freeing_X8_pulling rfl rfl rfl ⟨rfl, dh_X8_pulling⟩ ⟨Nat.le_of_ble_eq_true rfl, Nat.le_of_ble_eq_true rfl⟩) hK hN (hZ.kept hS) hP hD hS hA [2, 0, 1, 3] [] rfl rfl (by decide) (by decide) (by decide) (va_recv (q := (RX8, TX8, 38)) hK hP (ci := 8) (q0 := 2) rfl rfl) rfl hl.1 rfl (Nat.le_of_ble_eq_true rfl) dX8_freeing_86 ⟨Nat.le_of_ble_eq_true rfl, Nat.le_of_ble_eq_true rfl⟩ (fun r_121 u_122 H locs hr_121 hP hD hS => ?_)
              obtain ⟨q_123, q_124⟩ := u_122
              try dsimp only at hr_121
              obtain ⟨hbq_123, hsr_121_0, hr_121⟩ := hr_121
              have h9R := zRe (ws' := [(zMO m0 npu nte nat_ nde nto nse nhu nga nsd nfa mrf mki mpa mta mla msl mco mhe mso msi msh mce mca mwo mnu mte nba npl nen nnu nwr mwa mke mma mth mtr q_123 nik), (mki, .inl (cI, 8, .inl gki)), (mpa, .inl (cI, 8, .inl gpa)), (mtr, .inl (cI, 20, .inl q_124))]) hP hD rfl
              clear hP hD
              obtain ⟨hP, hD⟩ := h9R
              refine lv_iconst (v := 2) hx hb dX8_freeing_89 (by decide) ?_
              refine lv_imul hx hb dX8_freeing_90 ?_
              refine lv_topi (fun x_125 ex_125 => ?_)
              refine lv_istore (lv' := [(6, .int x_125), (5, .int 0), (4, .int x_112), (3, .int 6), (0, .ref m0), (1, .int p_), (2, .int x)]) hx hb dX8_freeing_91 hl (by decide) rfl (fun ls hl => ?_)
              refine lv_iload hx hb dX8_freeing_93 (lv_at hl 1 rfl) ?_
              refine lv_if_eq (tgt := 105) hx hb dX8_freeing_95 (by decide) (fun c_126 => ?_) (fun c_126 => ?_)
              · refine lv_iload hx hb dX8_freeing_105 (lv_at hl 0 rfl) ?_
                exact W.iret (v := x_125) hx hb hr (fun t ht hW => ⟨⟨x_125, (q_123, q_124), rfl, ⟨(show 0 ≤ q_123.toInt ∧ q_123.toInt ≤ 2000 from hbq_123), (show q_123.toInt ≤ nra.toInt + 8 from by omega), trivial⟩, zRet ht hP hD [0, 1, 2, 3] (by decide) rfl⟩, hS.F ht⟩) hS.2.2 dX8_freeing_107
              · exact absurd c_126 (by decide)
            · exact absurd c_116 (by decide)
          · exact absurd c_115 (by decide)
      · exact absurd c_113 (by decide)
theorem hi_X8_resting_8 : ∀ w ∈ u_ws RX8 TX8 38, w ∈ wsX8_resting := fun w h => (gl_X8_resting_X80 w h).1
set_option maxHeartbeats 4000000 in
set_option maxRecDepth 100000 in
theorem c_M_resting (l : Launch) (D : va_G) (cI cJ cZ cP cS : ClassId) (po : zPool) (m0 mrf mki mpa mta mla msl mco mhe mso msi msh mce mca mwo mnu mte mwa mke mma mth mtr : Nat) (npu nte nat_ nde nto nse nhu nga nsd nfa nba npl nen nnu nwr nra nik : Int32) (gki gpa gtr : Nat → Int32) (p_ x : Int32) (hy0 : 0 ≤ npu.toInt) (hy1 : npu.toInt ≤ 8) (hy2 : 4 ≤ nte.toInt) (hy3 : nte.toInt ≤ 40) (hy4 : 0 ≤ nat_.toInt) (hy5 : nat_.toInt ≤ 40) (hy6 : 0 ≤ nde.toInt) (hy7 : nde.toInt ≤ 24) (hy8 : 0 ≤ nhu.toInt) (hy9 : nhu.toInt ≤ 9) (hy10 : 0 ≤ nra.toInt) (hy11 : nra.toInt ≤ 2000) (hy12 : 0 ≤ nik.toInt) (hy13 : nik.toInt ≤ 1) (hy14 : 0 ≤ p_.toInt) (hy15 : p_.toInt ≤ 7) (hy16 : 0 ≤ nra.toInt) (hy17 : nra.toInt ≤ 800) (hp_gki : zRg gki (0) 6) (hp_gpa : zRg gpa (0) 9) (hpz : Nat) : Met l yX8_resting wsX8_resting ({ frames := 3, cells := 0, slots := 0, locals := 71 }) (va_Pc [.ref m0, .int p_, .int x] (zW D (zKT cI cJ cZ cP cS) po [(zMO m0 npu nte nat_ nde nto nse nhu nga nsd nfa mrf mki mpa mta mla msl mco mhe mso msi msh mce mca mwo mnu mte nba npl nen nnu nwr mwa mke mma mth mtr nra nik), (mki, .inl (cI, 8, .inl gki)), (mpa, .inl (cI, 8, .inl gpa)), (mtr, .inl (cI, 20, .inl gtr))] hpz)) (va_Qi (fun (r : Int32) (u : (Int32) × (Nat → Int32)) => (0 ≤ u.1.toInt ∧ u.1.toInt ≤ 2000) ∧ (u.1.toInt ≤ nra.toInt + 16) ∧ (True)) (zB D [(zMO m0 npu nte nat_ nde nto nse nhu nga nsd nfa mrf mki mpa mta mla msl mco mhe mso msi msh mce mca mwo mnu mte nba npl nen nnu nwr mwa mke mma mth mtr nra nik), (mki, .inl (cI, 8, .inl gki)), (mpa, .inl (cI, 8, .inl gpa)), (mtr, .inl (cI, 20, .inl gtr))] hpz (fun (u : (Int32) × (Nat → Int32)) => [(zMO m0 npu nte nat_ nde nto nse nhu nga nsd nfa mrf mki mpa mta mla msl mco mhe mso msi msh mce mca mwo mnu mte nba npl nen nnu nwr mwa mke mma mth mtr u.1 nik), (mki, .inl (cI, 8, .inl gki)), (mpa, .inl (cI, 8, .inl gpa)), (mtr, .inl (cI, 20, .inl u.2))])) (va_A [(zMO m0 npu nte nat_ nde nto nse nhu nga nsd nfa mrf mki mpa mta mla msl mco mhe mso msi msh mce mca mwo mnu mte nba npl nen nnu nwr mwa mke mma mth mtr nra nik), (mki, .inl (cI, 8, .inl gki)), (mpa, .inl (cI, 8, .inl gpa)), (mtr, .inl (cI, 20, .inl gtr))] hpz)) 0 0 (va_A [(zMO m0 npu nte nat_ nde nto nse nhu nga nsd nfa mrf mki mpa mta mla msl mco mhe mso msi msh mce mca mwo mnu mte nba npl nen nnu nwr mwa mke mma mth mtr nra nik), (mki, .inl (cI, 8, .inl gki)), (mpa, .inl (cI, 8, .inl gpa)), (mtr, .inl (cI, 20, .inl gtr))] hpz) := by
  refine Met.ofW (cc := cX8_resting) (maxL := 5) (ret := (some .int)) (by decide) rfl ?_
  intro p e s m args below meth c s₁ B hml hv
  obtain ⟨rfl, hsz, hP, hK, hD0, hN, hZ⟩ := hv
  have hx := B.exec
  have hb := B.bytes
  have hr := B.returns
  have hts := atoms_spec (ws := wsX8_resting) B.pre
  have hown : s.vm.findClass RX8 = some m.cls := findClass_of_methodNamed B.named
  have hlocks := B.notSynchronized
  subst hsz
  have hD := hD0.self (sz := s.heap.size)
  have hA := zA_of hD
  have hl := lv_entry ([.ref m0, .int p_, .int x]) (n := 5) (Nat.le_of_ble_eq_true rfl)
  rw [lg_entry_eq]
  generalize (lg_sl ([.ref m0, .int p_, .int x]) ++ List.replicate (5 - (lg_sl ([.ref m0, .int p_, .int x])).length) Slot.unset).toArray = ls at hl ⊢
  replace hl : lv_has ls 5 [(0, .ref m0), (1, .int p_), (2, .int x)] := hl
  refine zw_begin hP hD (fun H locs hP1 hS => ?_)
  clear hP
  have hP := hP1
  clear hP1
  refine lv_aload_n hx hb dX8_resting_0 rfl (lv_at hl 0 rfl) ?_
  refine va_get (D := D) (ci := 8) (v := .ref mki) (C := RX8) (T := TX8) (N := 38) hx hb hts hi_X8_resting_8 hown hK hP 0 rfl rfl 11 (by decide) (hts (.fieldLink RX8 29 "TheLiningsInItModel" "kind" "[I") (List.mem_of_getElem? (i := 1) rfl)) (fun _ h9 => h9) rfl dX8_resting_1 ?_
  refine lv_iload_n hx hb dX8_resting_4 rfl (lv_at hl 1 rfl) ?_
  refine va_iald hx hb hK hP 1 0 rfl rfl (zf_in (by omega) (by omega)) dX8_resting_5 ?_
  refine lv_topi (fun x_1 ex_1 => ?_)
  have bx_1 : 0 ≤ x_1.toInt ∧ x_1.toInt ≤ 6 := by rw [ex_1]; exact hp_gki _
  refine lv_istore_n (lv' := [(3, .int x_1), (0, .ref m0), (1, .int p_), (2, .int x)]) hx hb dX8_resting_6 rfl hl (by decide) rfl (fun ls hl => ?_)
  have hsp : x_1 = 0 ∨ x_1 = 1 ∨ x_1 = 2 ∨ x_1 = 3 ∨ x_1 = 4 ∨ x_1 = 5 ∨ x_1 = 6 := by
    rcases (show x_1.toInt = 0 ∨ x_1.toInt = 1 ∨ x_1.toInt = 2 ∨ x_1.toInt = 3 ∨ x_1.toInt = 4 ∨ x_1.toInt = 5 ∨ x_1.toInt = 6 by omega) with h9 | h9 | h9 | h9 | h9 | h9 | h9
    · refine Or.inl ?_; exact zf_val h9 (by decide)
    · refine Or.inr (Or.inl ?_); exact zf_val h9 (by decide)
    · refine Or.inr (Or.inr (Or.inl ?_)); exact zf_val h9 (by decide)
    · refine Or.inr (Or.inr (Or.inr (Or.inl ?_))); exact zf_val h9 (by decide)
    · refine Or.inr (Or.inr (Or.inr (Or.inr (Or.inl ?_)))); exact zf_val h9 (by decide)
    · refine Or.inr (Or.inr (Or.inr (Or.inr (Or.inr (Or.inl ?_))))); exact zf_val h9 (by decide)
    · refine Or.inr (Or.inr (Or.inr (Or.inr (Or.inr (Or.inr (?_)))))); exact zf_val h9 (by decide)
  rcases hsp with rfl | rfl | rfl | rfl | rfl | rfl | rfl
  · have kc0 : (0 : Int32).toInt = 0 := by decide
    refine lv_iload_n hx hb dX8_resting_7 rfl (lv_at hl 0 rfl) ?_
    refine lv_iconst (v := 4) hx hb dX8_resting_8 (by decide) ?_
    refine lv_icmp_eq (tgt := 18) hx hb dX8_resting_9 (by decide) (fun c_2 => ?_) (fun c_2 => ?_)
    · exact absurd c_2 (by decide)
    · refine lv_iload_n hx hb dX8_resting_12 rfl (lv_at hl 0 rfl) ?_
      refine lv_bipush (v := 6) hx hb dX8_resting_13 (by decide) ?_
      refine lv_icmp_ne (tgt := 24) hx hb dX8_resting_15 (by decide) (fun c_3 => ?_) (fun c_3 => ?_)
      · refine lv_iload_n hx hb dX8_resting_24 rfl (lv_at hl 0 rfl) ?_
        refine lv_iconst (v := 5) hx hb dX8_resting_25 (by decide) ?_
        refine lv_icmp_ne (tgt := 35) hx hb dX8_resting_26 (by decide) (fun c_4 => ?_) (fun c_4 => ?_)
        · refine lv_aload_n hx hb dX8_resting_35 rfl (lv_at hl 1 rfl) ?_
          refine lv_bipush (v := 12) hx hb dX8_resting_36 (by decide) ?_
          skip
          refine zw_Vv (As := [.int 12]) (rest := []) (wr := [(mki, .inl (cI, 8, .inl gki)), (mpa, .inl (cI, 8, .inl gpa))]) ⟨hx, hb, hml, hown, hts⟩ (c_M_body l D cI cJ cZ cP cS po m0 mrf mki mpa mta mla msl mco mhe mso msi msh mce mca mwo mnu mte mwa mke mma mth mtr (npu) (nte) (nat_) (nde) (nto) (nse) (nhu) (nga) (nsd) (nfa) (nba) (npl) (nen) (nnu) (nwr) (nra) (nik) gtr (12) hy0 hy1 hy2 hy3 hy4 hy5 hy6 hy7 hy8 hy9 hy10 hy11 hy12 hy13 H.size) (cwV 1 hts gX8_resting_X8_body rfl rfl rfl ⟨rfl, dh_X8_body⟩ ⟨Nat.le_of_ble_eq_true rfl, Nat.le_of_ble_eq_true rfl⟩) hK hN (hZ.kept hS) hP hD hS hA [0, 3] [1, 2] rfl rfl (by decide) (by decide) (by decide) (va_recv (q := (RX8, TX8, 38)) hK hP (ci := 8) (q0 := 0) rfl rfl) rfl hl.1 rfl (Nat.le_of_ble_eq_true rfl) dX8_resting_38 ⟨Nat.le_of_ble_eq_true rfl, Nat.le_of_ble_eq_true rfl⟩ (fun u_6 H locs hr_5 hP hD hS => ?_)
          obtain ⟨q_7, q_8⟩ := u_6
          try dsimp only at hr_5
          obtain ⟨hbq_7, hr_5⟩ := hr_5
          have h9R := zRe (ws' := [(mki, .inl (cI, 8, .inl gki)), (mpa, .inl (cI, 8, .inl gpa)), (zMO m0 npu nte nat_ nde nto nse nhu nga nsd nfa mrf mki mpa mta mla msl mco mhe mso msi msh mce mca mwo mnu mte nba npl nen nnu nwr mwa mke mma mth mtr q_7 nik), (mtr, .inl (cI, 20, .inl q_8))]) hP hD rfl
          clear hP hD
          obtain ⟨hP, hD⟩ := h9R
          refine lv_aload_n hx hb dX8_resting_41 rfl (lv_at hl 1 rfl) ?_
          refine lv_iload_n hx hb dX8_resting_42 rfl (lv_at hl 2 rfl) ?_
          refine lv_iload_n hx hb dX8_resting_43 rfl (lv_at hl 3 rfl) ?_
          skip
          refine zw_V (As := [.int p_, .int x]) (rest := []) (wr := []) ⟨hx, hb, hml, hown, hts⟩ (c_M_freeing l D cI cJ cZ cP cS po m0 mrf mki mpa mta mla msl mco mhe mso msi msh mce mca mwo mnu mte mwa mke mma mth mtr (npu) (nte) (nat_) (nde) (nto) (nse) (nhu) (nga) (nsd) (nfa) (nba) (npl) (nen) (nnu) (nwr) (q_7) (nik) gki gpa q_8 (p_) (x) hy0 hy1 hy2 hy3 hy4 hy5 hy6 hy7 hy8 hy9 (by omega) (by omega) hy12 hy13 hy14 hy15 (by omega) (by omega) hp_gki hp_gpa H.size) (cwV 2 hts gX8_resting_X8_freeing rfl rfl rfl ⟨rfl, dh_X8_freeing⟩ ⟨Nat.le_of_ble_eq_true rfl, Nat.le_of_ble_eq_true rfl⟩) hK hN (hZ.kept hS) hP hD hS hA [2, 0, 1, 3] [] rfl rfl (by decide) (by decide) (by decide) (va_recv (q := (RX8, TX8, 38)) hK hP (ci := 8) (q0 := 2) rfl rfl) rfl hl.1 rfl (Nat.le_of_ble_eq_true rfl) dX8_resting_44 ⟨Nat.le_of_ble_eq_true rfl, Nat.le_of_ble_eq_true rfl⟩ (fun r_9 u_10 H locs hr_9 hP hD hS => ?_)
          obtain ⟨q_11, q_12⟩ := u_10
          try dsimp only at hr_9
          obtain ⟨hbq_11, hsr_9_0, hr_9⟩ := hr_9
          have h9R := zRe (ws' := [(zMO m0 npu nte nat_ nde nto nse nhu nga nsd nfa mrf mki mpa mta mla msl mco mhe mso msi msh mce mca mwo mnu mte nba npl nen nnu nwr mwa mke mma mth mtr q_11 nik), (mki, .inl (cI, 8, .inl gki)), (mpa, .inl (cI, 8, .inl gpa)), (mtr, .inl (cI, 20, .inl q_12))]) hP hD rfl
          clear hP hD
          obtain ⟨hP, hD⟩ := h9R
          refine lv_istore (lv' := [(4, .int r_9), (3, .int 0), (0, .ref m0), (1, .int p_), (2, .int x)]) hx hb dX8_resting_47 hl (by decide) rfl (fun ls hl => ?_)
          refine lv_iload hx hb dX8_resting_49 (lv_at hl 0 rfl) ?_
          refine lv_aload_n hx hb dX8_resting_51 rfl (lv_at hl 2 rfl) ?_
          refine lv_iload_n hx hb dX8_resting_52 rfl (lv_at hl 3 rfl) ?_
          refine lv_iload_n hx hb dX8_resting_53 rfl (lv_at hl 4 rfl) ?_
          refine lv_aload_n hx hb dX8_resting_54 rfl (lv_at hl 2 rfl) ?_
          refine va_get (D := D) (ci := 8) (v := .ref mpa) (C := RX8) (T := TX8) (N := 38) hx hb hts hi_X8_resting_8 hown hK hP 0 rfl rfl 12 (by decide) (hts (.fieldLink RX8 32 "TheLiningsInItModel" "part" "[I") (List.mem_of_getElem? (i := 2) rfl)) (fun _ h9 => h9) rfl dX8_resting_55 ?_
          refine lv_iload_n hx hb dX8_resting_58 rfl (lv_at hl 3 rfl) ?_
          refine va_iald hx hb hK hP 2 0 rfl rfl (zf_in (by omega) (by omega)) dX8_resting_59 ?_
          refine lv_topi (fun x_13 ex_13 => ?_)
          have bx_13 : 0 ≤ x_13.toInt ∧ x_13.toInt ≤ 9 := by rw [ex_13]; exact hp_gpa _
          refine lv_isub hx hb dX8_resting_60 ?_
          refine lv_topi (fun x_14 ex_14 => ?_)
          skip
          refine zw_V (As := [.int p_, .int x_14]) (rest := [.int r_9]) (wr := []) ⟨hx, hb, hml, hown, hts⟩ (c_M_pulling l D cI cJ cZ cP cS po m0 mrf mki mpa mta mla msl mco mhe mso msi msh mce mca mwo mnu mte mwa mke mma mth mtr (npu) (nte) (nat_) (nde) (nto) (nse) (nhu) (nga) (nsd) (nfa) (nba) (npl) (nen) (nnu) (nwr) (q_11) (nik) gki gpa q_12 (p_) (x_14) hy0 hy1 hy2 hy3 hy4 hy5 hy6 hy7 hy8 hy9 hbq_11.1 hbq_11.2 hy12 hy13 hy14 hy15 hbq_11.1 (by omega) hp_gki hp_gpa H.size) (cwV 2 hts gX8_resting_X8_pulling rfl rfl rfl ⟨rfl, dh_X8_pulling⟩ ⟨Nat.le_of_ble_eq_true rfl, Nat.le_of_ble_eq_true rfl⟩) hK hN (hZ.kept hS) hP hD hS hA [0, 1, 2, 3] [] rfl rfl (by decide) (by decide) (by decide) (va_recv (q := (RX8, TX8, 38)) hK hP (ci := 8) (q0 := 0) rfl rfl) rfl hl.1 rfl (Nat.le_of_ble_eq_true rfl) dX8_resting_61 ⟨Nat.le_of_ble_eq_true rfl, Nat.le_of_ble_eq_true rfl⟩ (fun r_15 u_16 H locs hr_15 hP hD hS => ?_)
          obtain ⟨q_17, q_18⟩ := u_16
          try dsimp only at hr_15
          obtain ⟨hbq_17, hsr_15_0, hr_15⟩ := hr_15
          have h9R := zRe (ws' := [(zMO m0 npu nte nat_ nde nto nse nhu nga nsd nfa mrf mki mpa mta mla msl mco mhe mso msi msh mce mca mwo mnu mte nba npl nen nnu nwr mwa mke mma mth mtr q_17 nik), (mki, .inl (cI, 8, .inl gki)), (mpa, .inl (cI, 8, .inl gpa)), (mtr, .inl (cI, 20, .inl q_18))]) hP hD rfl
          clear hP hD
          obtain ⟨hP, hD⟩ := h9R
          refine lv_ixor hx hb dX8_resting_64 ?_
          refine lv_topi (fun x_19 ex_19 => ?_)
          refine lv_istore (lv' := [(4, .int x_19), (3, .int 0), (0, .ref m0), (1, .int p_), (2, .int x)]) hx hb dX8_resting_65 hl (by decide) rfl (fun ls hl => ?_)
          refine lv_iload_n hx hb dX8_resting_67 rfl (lv_at hl 1 rfl) ?_
          refine lv_iconst (v := 4) hx hb dX8_resting_68 (by decide) ?_
          refine lv_icmp_eq (tgt := 78) hx hb dX8_resting_69 (by decide) (fun c_20 => ?_) (fun c_20 => ?_)
          · exact absurd c_20 (by decide)
          · refine lv_iload_n hx hb dX8_resting_72 rfl (lv_at hl 1 rfl) ?_
            refine lv_bipush (v := 6) hx hb dX8_resting_73 (by decide) ?_
            refine lv_icmp_ne (tgt := 84) hx hb dX8_resting_75 (by decide) (fun c_21 => ?_) (fun c_21 => ?_)
            · refine lv_iload_n hx hb dX8_resting_84 rfl (lv_at hl 1 rfl) ?_
              refine lv_iconst (v := 5) hx hb dX8_resting_85 (by decide) ?_
              refine lv_icmp_ne (tgt := 96) hx hb dX8_resting_86 (by decide) (fun c_22 => ?_) (fun c_22 => ?_)
              · refine lv_iload hx hb dX8_resting_96 (lv_at hl 0 rfl) ?_
                exact W.iret (v := x_19) hx hb hr (fun t ht hW => ⟨⟨x_19, (q_17, q_18), rfl, ⟨(show 0 ≤ q_17.toInt ∧ q_17.toInt ≤ 2000 from hbq_17), (show q_17.toInt ≤ nra.toInt + 16 from by omega), trivial⟩, zRet ht hP hD [0, 1, 2, 3] (by decide) rfl⟩, hS.F ht⟩) hS.2.2 dX8_resting_98
              · exact absurd c_22 (by decide)
            · exact absurd c_21 (by decide)
        · exact absurd c_4 (by decide)
      · exact absurd c_3 (by decide)
  · have kc1 : (1 : Int32).toInt = 1 := by decide
    refine lv_iload_n hx hb dX8_resting_7 rfl (lv_at hl 0 rfl) ?_
    refine lv_iconst (v := 4) hx hb dX8_resting_8 (by decide) ?_
    refine lv_icmp_eq (tgt := 18) hx hb dX8_resting_9 (by decide) (fun c_23 => ?_) (fun c_23 => ?_)
    · exact absurd c_23 (by decide)
    · refine lv_iload_n hx hb dX8_resting_12 rfl (lv_at hl 0 rfl) ?_
      refine lv_bipush (v := 6) hx hb dX8_resting_13 (by decide) ?_
      refine lv_icmp_ne (tgt := 24) hx hb dX8_resting_15 (by decide) (fun c_24 => ?_) (fun c_24 => ?_)
      · refine lv_iload_n hx hb dX8_resting_24 rfl (lv_at hl 0 rfl) ?_
        refine lv_iconst (v := 5) hx hb dX8_resting_25 (by decide) ?_
        refine lv_icmp_ne (tgt := 35) hx hb dX8_resting_26 (by decide) (fun c_25 => ?_) (fun c_25 => ?_)
        · refine lv_aload_n hx hb dX8_resting_35 rfl (lv_at hl 1 rfl) ?_
          refine lv_bipush (v := 12) hx hb dX8_resting_36 (by decide) ?_
          skip
          refine zw_Vv (As := [.int 12]) (rest := []) (wr := [(mki, .inl (cI, 8, .inl gki)), (mpa, .inl (cI, 8, .inl gpa))]) ⟨hx, hb, hml, hown, hts⟩ (c_M_body l D cI cJ cZ cP cS po m0 mrf mki mpa mta mla msl mco mhe mso msi msh mce mca mwo mnu mte mwa mke mma mth mtr (npu) (nte) (nat_) (nde) (nto) (nse) (nhu) (nga) (nsd) (nfa) (nba) (npl) (nen) (nnu) (nwr) (nra) (nik) gtr (12) hy0 hy1 hy2 hy3 hy4 hy5 hy6 hy7 hy8 hy9 hy10 hy11 hy12 hy13 H.size) (cwV 1 hts gX8_resting_X8_body rfl rfl rfl ⟨rfl, dh_X8_body⟩ ⟨Nat.le_of_ble_eq_true rfl, Nat.le_of_ble_eq_true rfl⟩) hK hN (hZ.kept hS) hP hD hS hA [0, 3] [1, 2] rfl rfl (by decide) (by decide) (by decide) (va_recv (q := (RX8, TX8, 38)) hK hP (ci := 8) (q0 := 0) rfl rfl) rfl hl.1 rfl (Nat.le_of_ble_eq_true rfl) dX8_resting_38 ⟨Nat.le_of_ble_eq_true rfl, Nat.le_of_ble_eq_true rfl⟩ (fun u_27 H locs hr_26 hP hD hS => ?_)
          obtain ⟨q_28, q_29⟩ := u_27
          try dsimp only at hr_26
          obtain ⟨hbq_28, hr_26⟩ := hr_26
          have h9R := zRe (ws' := [(mki, .inl (cI, 8, .inl gki)), (mpa, .inl (cI, 8, .inl gpa)), (zMO m0 npu nte nat_ nde nto nse nhu nga nsd nfa mrf mki mpa mta mla msl mco mhe mso msi msh mce mca mwo mnu mte nba npl nen nnu nwr mwa mke mma mth mtr q_28 nik), (mtr, .inl (cI, 20, .inl q_29))]) hP hD rfl
          clear hP hD
          obtain ⟨hP, hD⟩ := h9R
          refine lv_aload_n hx hb dX8_resting_41 rfl (lv_at hl 1 rfl) ?_
          refine lv_iload_n hx hb dX8_resting_42 rfl (lv_at hl 2 rfl) ?_
          refine lv_iload_n hx hb dX8_resting_43 rfl (lv_at hl 3 rfl) ?_
          skip
          refine zw_V (As := [.int p_, .int x]) (rest := []) (wr := []) ⟨hx, hb, hml, hown, hts⟩ (c_M_freeing l D cI cJ cZ cP cS po m0 mrf mki mpa mta mla msl mco mhe mso msi msh mce mca mwo mnu mte mwa mke mma mth mtr (npu) (nte) (nat_) (nde) (nto) (nse) (nhu) (nga) (nsd) (nfa) (nba) (npl) (nen) (nnu) (nwr) (q_28) (nik) gki gpa q_29 (p_) (x) hy0 hy1 hy2 hy3 hy4 hy5 hy6 hy7 hy8 hy9 (by omega) (by omega) hy12 hy13 hy14 hy15 (by omega) (by omega) hp_gki hp_gpa H.size) (cwV 2 hts gX8_resting_X8_freeing rfl rfl rfl ⟨rfl, dh_X8_freeing⟩ ⟨Nat.le_of_ble_eq_true rfl, Nat.le_of_ble_eq_true rfl⟩) hK hN (hZ.kept hS) hP hD hS hA [2, 0, 1, 3] [] rfl rfl (by decide) (by decide) (by decide) (va_recv (q := (RX8, TX8, 38)) hK hP (ci := 8) (q0 := 2) rfl rfl) rfl hl.1 rfl (Nat.le_of_ble_eq_true rfl) dX8_resting_44 ⟨Nat.le_of_ble_eq_true rfl, Nat.le_of_ble_eq_true rfl⟩ (fun r_30 u_31 H locs hr_30 hP hD hS => ?_)
          obtain ⟨q_32, q_33⟩ := u_31
          try dsimp only at hr_30
          obtain ⟨hbq_32, hsr_30_0, hr_30⟩ := hr_30
          have h9R := zRe (ws' := [(zMO m0 npu nte nat_ nde nto nse nhu nga nsd nfa mrf mki mpa mta mla msl mco mhe mso msi msh mce mca mwo mnu mte nba npl nen nnu nwr mwa mke mma mth mtr q_32 nik), (mki, .inl (cI, 8, .inl gki)), (mpa, .inl (cI, 8, .inl gpa)), (mtr, .inl (cI, 20, .inl q_33))]) hP hD rfl
          clear hP hD
          obtain ⟨hP, hD⟩ := h9R
          refine lv_istore (lv' := [(4, .int r_30), (3, .int 1), (0, .ref m0), (1, .int p_), (2, .int x)]) hx hb dX8_resting_47 hl (by decide) rfl (fun ls hl => ?_)
          refine lv_iload hx hb dX8_resting_49 (lv_at hl 0 rfl) ?_
          refine lv_aload_n hx hb dX8_resting_51 rfl (lv_at hl 2 rfl) ?_
          refine lv_iload_n hx hb dX8_resting_52 rfl (lv_at hl 3 rfl) ?_
          refine lv_iload_n hx hb dX8_resting_53 rfl (lv_at hl 4 rfl) ?_
          refine lv_aload_n hx hb dX8_resting_54 rfl (lv_at hl 2 rfl) ?_
          refine va_get (D := D) (ci := 8) (v := .ref mpa) (C := RX8) (T := TX8) (N := 38) hx hb hts hi_X8_resting_8 hown hK hP 0 rfl rfl 12 (by decide) (hts (.fieldLink RX8 32 "TheLiningsInItModel" "part" "[I") (List.mem_of_getElem? (i := 2) rfl)) (fun _ h9 => h9) rfl dX8_resting_55 ?_
          refine lv_iload_n hx hb dX8_resting_58 rfl (lv_at hl 3 rfl) ?_
          refine va_iald hx hb hK hP 2 0 rfl rfl (zf_in (by omega) (by omega)) dX8_resting_59 ?_
          refine lv_topi (fun x_34 ex_34 => ?_)
          have bx_34 : 0 ≤ x_34.toInt ∧ x_34.toInt ≤ 9 := by rw [ex_34]; exact hp_gpa _
          refine lv_isub hx hb dX8_resting_60 ?_
          refine lv_topi (fun x_35 ex_35 => ?_)
          skip
          refine zw_V (As := [.int p_, .int x_35]) (rest := [.int r_30]) (wr := []) ⟨hx, hb, hml, hown, hts⟩ (c_M_pulling l D cI cJ cZ cP cS po m0 mrf mki mpa mta mla msl mco mhe mso msi msh mce mca mwo mnu mte mwa mke mma mth mtr (npu) (nte) (nat_) (nde) (nto) (nse) (nhu) (nga) (nsd) (nfa) (nba) (npl) (nen) (nnu) (nwr) (q_32) (nik) gki gpa q_33 (p_) (x_35) hy0 hy1 hy2 hy3 hy4 hy5 hy6 hy7 hy8 hy9 hbq_32.1 hbq_32.2 hy12 hy13 hy14 hy15 hbq_32.1 (by omega) hp_gki hp_gpa H.size) (cwV 2 hts gX8_resting_X8_pulling rfl rfl rfl ⟨rfl, dh_X8_pulling⟩ ⟨Nat.le_of_ble_eq_true rfl, Nat.le_of_ble_eq_true rfl⟩) hK hN (hZ.kept hS) hP hD hS hA [0, 1, 2, 3] [] rfl rfl (by decide) (by decide) (by decide) (va_recv (q := (RX8, TX8, 38)) hK hP (ci := 8) (q0 := 0) rfl rfl) rfl hl.1 rfl (Nat.le_of_ble_eq_true rfl) dX8_resting_61 ⟨Nat.le_of_ble_eq_true rfl, Nat.le_of_ble_eq_true rfl⟩ (fun r_36 u_37 H locs hr_36 hP hD hS => ?_)
          obtain ⟨q_38, q_39⟩ := u_37
          try dsimp only at hr_36
          obtain ⟨hbq_38, hsr_36_0, hr_36⟩ := hr_36
          have h9R := zRe (ws' := [(zMO m0 npu nte nat_ nde nto nse nhu nga nsd nfa mrf mki mpa mta mla msl mco mhe mso msi msh mce mca mwo mnu mte nba npl nen nnu nwr mwa mke mma mth mtr q_38 nik), (mki, .inl (cI, 8, .inl gki)), (mpa, .inl (cI, 8, .inl gpa)), (mtr, .inl (cI, 20, .inl q_39))]) hP hD rfl
          clear hP hD
          obtain ⟨hP, hD⟩ := h9R
          refine lv_ixor hx hb dX8_resting_64 ?_
          refine lv_topi (fun x_40 ex_40 => ?_)
          refine lv_istore (lv' := [(4, .int x_40), (3, .int 1), (0, .ref m0), (1, .int p_), (2, .int x)]) hx hb dX8_resting_65 hl (by decide) rfl (fun ls hl => ?_)
          refine lv_iload_n hx hb dX8_resting_67 rfl (lv_at hl 1 rfl) ?_
          refine lv_iconst (v := 4) hx hb dX8_resting_68 (by decide) ?_
          refine lv_icmp_eq (tgt := 78) hx hb dX8_resting_69 (by decide) (fun c_41 => ?_) (fun c_41 => ?_)
          · exact absurd c_41 (by decide)
          · refine lv_iload_n hx hb dX8_resting_72 rfl (lv_at hl 1 rfl) ?_
            refine lv_bipush (v := 6) hx hb dX8_resting_73 (by decide) ?_
            refine lv_icmp_ne (tgt := 84) hx hb dX8_resting_75 (by decide) (fun c_42 => ?_) (fun c_42 => ?_)
            · refine lv_iload_n hx hb dX8_resting_84 rfl (lv_at hl 1 rfl) ?_
              refine lv_iconst (v := 5) hx hb dX8_resting_85 (by decide) ?_
              refine lv_icmp_ne (tgt := 96) hx hb dX8_resting_86 (by decide) (fun c_43 => ?_) (fun c_43 => ?_)
              · refine lv_iload hx hb dX8_resting_96 (lv_at hl 0 rfl) ?_
                exact W.iret (v := x_40) hx hb hr (fun t ht hW => ⟨⟨x_40, (q_38, q_39), rfl, ⟨(show 0 ≤ q_38.toInt ∧ q_38.toInt ≤ 2000 from hbq_38), (show q_38.toInt ≤ nra.toInt + 16 from by omega), trivial⟩, zRet ht hP hD [0, 1, 2, 3] (by decide) rfl⟩, hS.F ht⟩) hS.2.2 dX8_resting_98
              · exact absurd c_43 (by decide)
            · exact absurd c_42 (by decide)
        · exact absurd c_25 (by decide)
      · exact absurd c_24 (by decide)
  · have kc2 : (2 : Int32).toInt = 2 := by decide
    refine lv_iload_n hx hb dX8_resting_7 rfl (lv_at hl 0 rfl) ?_
    refine lv_iconst (v := 4) hx hb dX8_resting_8 (by decide) ?_
    refine lv_icmp_eq (tgt := 18) hx hb dX8_resting_9 (by decide) (fun c_44 => ?_) (fun c_44 => ?_)
    · exact absurd c_44 (by decide)
    · refine lv_iload_n hx hb dX8_resting_12 rfl (lv_at hl 0 rfl) ?_
      refine lv_bipush (v := 6) hx hb dX8_resting_13 (by decide) ?_
      refine lv_icmp_ne (tgt := 24) hx hb dX8_resting_15 (by decide) (fun c_45 => ?_) (fun c_45 => ?_)
      · refine lv_iload_n hx hb dX8_resting_24 rfl (lv_at hl 0 rfl) ?_
        refine lv_iconst (v := 5) hx hb dX8_resting_25 (by decide) ?_
        refine lv_icmp_ne (tgt := 35) hx hb dX8_resting_26 (by decide) (fun c_46 => ?_) (fun c_46 => ?_)
        · refine lv_aload_n hx hb dX8_resting_35 rfl (lv_at hl 1 rfl) ?_
          refine lv_bipush (v := 12) hx hb dX8_resting_36 (by decide) ?_
          skip
          refine zw_Vv (As := [.int 12]) (rest := []) (wr := [(mki, .inl (cI, 8, .inl gki)), (mpa, .inl (cI, 8, .inl gpa))]) ⟨hx, hb, hml, hown, hts⟩ (c_M_body l D cI cJ cZ cP cS po m0 mrf mki mpa mta mla msl mco mhe mso msi msh mce mca mwo mnu mte mwa mke mma mth mtr (npu) (nte) (nat_) (nde) (nto) (nse) (nhu) (nga) (nsd) (nfa) (nba) (npl) (nen) (nnu) (nwr) (nra) (nik) gtr (12) hy0 hy1 hy2 hy3 hy4 hy5 hy6 hy7 hy8 hy9 hy10 hy11 hy12 hy13 H.size) (cwV 1 hts gX8_resting_X8_body rfl rfl rfl ⟨rfl, dh_X8_body⟩ ⟨Nat.le_of_ble_eq_true rfl, Nat.le_of_ble_eq_true rfl⟩) hK hN (hZ.kept hS) hP hD hS hA [0, 3] [1, 2] rfl rfl (by decide) (by decide) (by decide) (va_recv (q := (RX8, TX8, 38)) hK hP (ci := 8) (q0 := 0) rfl rfl) rfl hl.1 rfl (Nat.le_of_ble_eq_true rfl) dX8_resting_38 ⟨Nat.le_of_ble_eq_true rfl, Nat.le_of_ble_eq_true rfl⟩ (fun u_48 H locs hr_47 hP hD hS => ?_)
          obtain ⟨q_49, q_50⟩ := u_48
          try dsimp only at hr_47
          obtain ⟨hbq_49, hr_47⟩ := hr_47
          have h9R := zRe (ws' := [(mki, .inl (cI, 8, .inl gki)), (mpa, .inl (cI, 8, .inl gpa)), (zMO m0 npu nte nat_ nde nto nse nhu nga nsd nfa mrf mki mpa mta mla msl mco mhe mso msi msh mce mca mwo mnu mte nba npl nen nnu nwr mwa mke mma mth mtr q_49 nik), (mtr, .inl (cI, 20, .inl q_50))]) hP hD rfl
          clear hP hD
          obtain ⟨hP, hD⟩ := h9R
          refine lv_aload_n hx hb dX8_resting_41 rfl (lv_at hl 1 rfl) ?_
          refine lv_iload_n hx hb dX8_resting_42 rfl (lv_at hl 2 rfl) ?_
          refine lv_iload_n hx hb dX8_resting_43 rfl (lv_at hl 3 rfl) ?_
          skip
          refine zw_V (As := [.int p_, .int x]) (rest := []) (wr := []) ⟨hx, hb, hml, hown, hts⟩ (c_M_freeing l D cI cJ cZ cP cS po m0 mrf mki mpa mta mla msl mco mhe mso msi msh mce mca mwo mnu mte mwa mke mma mth mtr (npu) (nte) (nat_) (nde) (nto) (nse) (nhu) (nga) (nsd) (nfa) (nba) (npl) (nen) (nnu) (nwr) (q_49) (nik) gki gpa q_50 (p_) (x) hy0 hy1 hy2 hy3 hy4 hy5 hy6 hy7 hy8 hy9 (by omega) (by omega) hy12 hy13 hy14 hy15 (by omega) (by omega) hp_gki hp_gpa H.size) (cwV 2 hts gX8_resting_X8_freeing rfl rfl rfl ⟨rfl, dh_X8_freeing⟩ ⟨Nat.le_of_ble_eq_true rfl, Nat.le_of_ble_eq_true rfl⟩) hK hN (hZ.kept hS) hP hD hS hA [2, 0, 1, 3] [] rfl rfl (by decide) (by decide) (by decide) (va_recv (q := (RX8, TX8, 38)) hK hP (ci := 8) (q0 := 2) rfl rfl) rfl hl.1 rfl (Nat.le_of_ble_eq_true rfl) dX8_resting_44 ⟨Nat.le_of_ble_eq_true rfl, Nat.le_of_ble_eq_true rfl⟩ (fun r_51 u_52 H locs hr_51 hP hD hS => ?_)
          obtain ⟨q_53, q_54⟩ := u_52
          try dsimp only at hr_51
          obtain ⟨hbq_53, hsr_51_0, hr_51⟩ := hr_51
          have h9R := zRe (ws' := [(zMO m0 npu nte nat_ nde nto nse nhu nga nsd nfa mrf mki mpa mta mla msl mco mhe mso msi msh mce mca mwo mnu mte nba npl nen nnu nwr mwa mke mma mth mtr q_53 nik), (mki, .inl (cI, 8, .inl gki)), (mpa, .inl (cI, 8, .inl gpa)), (mtr, .inl (cI, 20, .inl q_54))]) hP hD rfl
          clear hP hD
          obtain ⟨hP, hD⟩ := h9R
          refine lv_istore (lv' := [(4, .int r_51), (3, .int 2), (0, .ref m0), (1, .int p_), (2, .int x)]) hx hb dX8_resting_47 hl (by decide) rfl (fun ls hl => ?_)
          refine lv_iload hx hb dX8_resting_49 (lv_at hl 0 rfl) ?_
          refine lv_aload_n hx hb dX8_resting_51 rfl (lv_at hl 2 rfl) ?_
          refine lv_iload_n hx hb dX8_resting_52 rfl (lv_at hl 3 rfl) ?_
          refine lv_iload_n hx hb dX8_resting_53 rfl (lv_at hl 4 rfl) ?_
          refine lv_aload_n hx hb dX8_resting_54 rfl (lv_at hl 2 rfl) ?_
          refine va_get (D := D) (ci := 8) (v := .ref mpa) (C := RX8) (T := TX8) (N := 38) hx hb hts hi_X8_resting_8 hown hK hP 0 rfl rfl 12 (by decide) (hts (.fieldLink RX8 32 "TheLiningsInItModel" "part" "[I") (List.mem_of_getElem? (i := 2) rfl)) (fun _ h9 => h9) rfl dX8_resting_55 ?_
          refine lv_iload_n hx hb dX8_resting_58 rfl (lv_at hl 3 rfl) ?_
          refine va_iald hx hb hK hP 2 0 rfl rfl (zf_in (by omega) (by omega)) dX8_resting_59 ?_
          refine lv_topi (fun x_55 ex_55 => ?_)
          have bx_55 : 0 ≤ x_55.toInt ∧ x_55.toInt ≤ 9 := by rw [ex_55]; exact hp_gpa _
          refine lv_isub hx hb dX8_resting_60 ?_
          refine lv_topi (fun x_56 ex_56 => ?_)
          skip
          refine zw_V (As := [.int p_, .int x_56]) (rest := [.int r_51]) (wr := []) ⟨hx, hb, hml, hown, hts⟩ (c_M_pulling l D cI cJ cZ cP cS po m0 mrf mki mpa mta mla msl mco mhe mso msi msh mce mca mwo mnu mte mwa mke mma mth mtr (npu) (nte) (nat_) (nde) (nto) (nse) (nhu) (nga) (nsd) (nfa) (nba) (npl) (nen) (nnu) (nwr) (q_53) (nik) gki gpa q_54 (p_) (x_56) hy0 hy1 hy2 hy3 hy4 hy5 hy6 hy7 hy8 hy9 hbq_53.1 hbq_53.2 hy12 hy13 hy14 hy15 hbq_53.1 (by omega) hp_gki hp_gpa H.size) (cwV 2 hts gX8_resting_X8_pulling rfl rfl rfl ⟨rfl, dh_X8_pulling⟩ ⟨Nat.le_of_ble_eq_true rfl, Nat.le_of_ble_eq_true rfl⟩) hK hN (hZ.kept hS) hP hD hS hA [0, 1, 2, 3] [] rfl rfl (by decide) (by decide) (by decide) (va_recv (q := (RX8, TX8, 38)) hK hP (ci := 8) (q0 := 0) rfl rfl) rfl hl.1 rfl (Nat.le_of_ble_eq_true rfl) dX8_resting_61 ⟨Nat.le_of_ble_eq_true rfl, Nat.le_of_ble_eq_true rfl⟩ (fun r_57 u_58 H locs hr_57 hP hD hS => ?_)
          obtain ⟨q_59, q_60⟩ := u_58
          try dsimp only at hr_57
          obtain ⟨hbq_59, hsr_57_0, hr_57⟩ := hr_57
          have h9R := zRe (ws' := [(zMO m0 npu nte nat_ nde nto nse nhu nga nsd nfa mrf mki mpa mta mla msl mco mhe mso msi msh mce mca mwo mnu mte nba npl nen nnu nwr mwa mke mma mth mtr q_59 nik), (mki, .inl (cI, 8, .inl gki)), (mpa, .inl (cI, 8, .inl gpa)), (mtr, .inl (cI, 20, .inl q_60))]) hP hD rfl
          clear hP hD
          obtain ⟨hP, hD⟩ := h9R
          refine lv_ixor hx hb dX8_resting_64 ?_
          refine lv_topi (fun x_61 ex_61 => ?_)
          refine lv_istore (lv' := [(4, .int x_61), (3, .int 2), (0, .ref m0), (1, .int p_), (2, .int x)]) hx hb dX8_resting_65 hl (by decide) rfl (fun ls hl => ?_)
          refine lv_iload_n hx hb dX8_resting_67 rfl (lv_at hl 1 rfl) ?_
          refine lv_iconst (v := 4) hx hb dX8_resting_68 (by decide) ?_
          refine lv_icmp_eq (tgt := 78) hx hb dX8_resting_69 (by decide) (fun c_62 => ?_) (fun c_62 => ?_)
          · exact absurd c_62 (by decide)
          · refine lv_iload_n hx hb dX8_resting_72 rfl (lv_at hl 1 rfl) ?_
            refine lv_bipush (v := 6) hx hb dX8_resting_73 (by decide) ?_
            refine lv_icmp_ne (tgt := 84) hx hb dX8_resting_75 (by decide) (fun c_63 => ?_) (fun c_63 => ?_)
            · refine lv_iload_n hx hb dX8_resting_84 rfl (lv_at hl 1 rfl) ?_
              refine lv_iconst (v := 5) hx hb dX8_resting_85 (by decide) ?_
              refine lv_icmp_ne (tgt := 96) hx hb dX8_resting_86 (by decide) (fun c_64 => ?_) (fun c_64 => ?_)
              · refine lv_iload hx hb dX8_resting_96 (lv_at hl 0 rfl) ?_
                exact W.iret (v := x_61) hx hb hr (fun t ht hW => ⟨⟨x_61, (q_59, q_60), rfl, ⟨(show 0 ≤ q_59.toInt ∧ q_59.toInt ≤ 2000 from hbq_59), (show q_59.toInt ≤ nra.toInt + 16 from by omega), trivial⟩, zRet ht hP hD [0, 1, 2, 3] (by decide) rfl⟩, hS.F ht⟩) hS.2.2 dX8_resting_98
              · exact absurd c_64 (by decide)
            · exact absurd c_63 (by decide)
        · exact absurd c_46 (by decide)
      · exact absurd c_45 (by decide)
  · have kc3 : (3 : Int32).toInt = 3 := by decide
    refine lv_iload_n hx hb dX8_resting_7 rfl (lv_at hl 0 rfl) ?_
    refine lv_iconst (v := 4) hx hb dX8_resting_8 (by decide) ?_
    refine lv_icmp_eq (tgt := 18) hx hb dX8_resting_9 (by decide) (fun c_65 => ?_) (fun c_65 => ?_)
    · exact absurd c_65 (by decide)
    · refine lv_iload_n hx hb dX8_resting_12 rfl (lv_at hl 0 rfl) ?_
      refine lv_bipush (v := 6) hx hb dX8_resting_13 (by decide) ?_
      refine lv_icmp_ne (tgt := 24) hx hb dX8_resting_15 (by decide) (fun c_66 => ?_) (fun c_66 => ?_)
      · refine lv_iload_n hx hb dX8_resting_24 rfl (lv_at hl 0 rfl) ?_
        refine lv_iconst (v := 5) hx hb dX8_resting_25 (by decide) ?_
        refine lv_icmp_ne (tgt := 35) hx hb dX8_resting_26 (by decide) (fun c_67 => ?_) (fun c_67 => ?_)
        · refine lv_aload_n hx hb dX8_resting_35 rfl (lv_at hl 1 rfl) ?_
          refine lv_bipush (v := 12) hx hb dX8_resting_36 (by decide) ?_
          skip
          refine zw_Vv (As := [.int 12]) (rest := []) (wr := [(mki, .inl (cI, 8, .inl gki)), (mpa, .inl (cI, 8, .inl gpa))]) ⟨hx, hb, hml, hown, hts⟩ (c_M_body l D cI cJ cZ cP cS po m0 mrf mki mpa mta mla msl mco mhe mso msi msh mce mca mwo mnu mte mwa mke mma mth mtr (npu) (nte) (nat_) (nde) (nto) (nse) (nhu) (nga) (nsd) (nfa) (nba) (npl) (nen) (nnu) (nwr) (nra) (nik) gtr (12) hy0 hy1 hy2 hy3 hy4 hy5 hy6 hy7 hy8 hy9 hy10 hy11 hy12 hy13 H.size) (cwV 1 hts gX8_resting_X8_body rfl rfl rfl ⟨rfl, dh_X8_body⟩ ⟨Nat.le_of_ble_eq_true rfl, Nat.le_of_ble_eq_true rfl⟩) hK hN (hZ.kept hS) hP hD hS hA [0, 3] [1, 2] rfl rfl (by decide) (by decide) (by decide) (va_recv (q := (RX8, TX8, 38)) hK hP (ci := 8) (q0 := 0) rfl rfl) rfl hl.1 rfl (Nat.le_of_ble_eq_true rfl) dX8_resting_38 ⟨Nat.le_of_ble_eq_true rfl, Nat.le_of_ble_eq_true rfl⟩ (fun u_69 H locs hr_68 hP hD hS => ?_)
          obtain ⟨q_70, q_71⟩ := u_69
          try dsimp only at hr_68
          obtain ⟨hbq_70, hr_68⟩ := hr_68
          have h9R := zRe (ws' := [(mki, .inl (cI, 8, .inl gki)), (mpa, .inl (cI, 8, .inl gpa)), (zMO m0 npu nte nat_ nde nto nse nhu nga nsd nfa mrf mki mpa mta mla msl mco mhe mso msi msh mce mca mwo mnu mte nba npl nen nnu nwr mwa mke mma mth mtr q_70 nik), (mtr, .inl (cI, 20, .inl q_71))]) hP hD rfl
          clear hP hD
          obtain ⟨hP, hD⟩ := h9R
          refine lv_aload_n hx hb dX8_resting_41 rfl (lv_at hl 1 rfl) ?_
          refine lv_iload_n hx hb dX8_resting_42 rfl (lv_at hl 2 rfl) ?_
          refine lv_iload_n hx hb dX8_resting_43 rfl (lv_at hl 3 rfl) ?_
          skip
          refine zw_V (As := [.int p_, .int x]) (rest := []) (wr := []) ⟨hx, hb, hml, hown, hts⟩ (c_M_freeing l D cI cJ cZ cP cS po m0 mrf mki mpa mta mla msl mco mhe mso msi msh mce mca mwo mnu mte mwa mke mma mth mtr (npu) (nte) (nat_) (nde) (nto) (nse) (nhu) (nga) (nsd) (nfa) (nba) (npl) (nen) (nnu) (nwr) (q_70) (nik) gki gpa q_71 (p_) (x) hy0 hy1 hy2 hy3 hy4 hy5 hy6 hy7 hy8 hy9 (by omega) (by omega) hy12 hy13 hy14 hy15 (by omega) (by omega) hp_gki hp_gpa H.size) (cwV 2 hts gX8_resting_X8_freeing rfl rfl rfl ⟨rfl, dh_X8_freeing⟩ ⟨Nat.le_of_ble_eq_true rfl, Nat.le_of_ble_eq_true rfl⟩) hK hN (hZ.kept hS) hP hD hS hA [2, 0, 1, 3] [] rfl rfl (by decide) (by decide) (by decide) (va_recv (q := (RX8, TX8, 38)) hK hP (ci := 8) (q0 := 2) rfl rfl) rfl hl.1 rfl (Nat.le_of_ble_eq_true rfl) dX8_resting_44 ⟨Nat.le_of_ble_eq_true rfl, Nat.le_of_ble_eq_true rfl⟩ (fun r_72 u_73 H locs hr_72 hP hD hS => ?_)
          obtain ⟨q_74, q_75⟩ := u_73
          try dsimp only at hr_72
          obtain ⟨hbq_74, hsr_72_0, hr_72⟩ := hr_72
          have h9R := zRe (ws' := [(zMO m0 npu nte nat_ nde nto nse nhu nga nsd nfa mrf mki mpa mta mla msl mco mhe mso msi msh mce mca mwo mnu mte nba npl nen nnu nwr mwa mke mma mth mtr q_74 nik), (mki, .inl (cI, 8, .inl gki)), (mpa, .inl (cI, 8, .inl gpa)), (mtr, .inl (cI, 20, .inl q_75))]) hP hD rfl
          clear hP hD
          obtain ⟨hP, hD⟩ := h9R
          refine lv_istore (lv' := [(4, .int r_72), (3, .int 3), (0, .ref m0), (1, .int p_), (2, .int x)]) hx hb dX8_resting_47 hl (by decide) rfl (fun ls hl => ?_)
          refine lv_iload hx hb dX8_resting_49 (lv_at hl 0 rfl) ?_
          refine lv_aload_n hx hb dX8_resting_51 rfl (lv_at hl 2 rfl) ?_
          refine lv_iload_n hx hb dX8_resting_52 rfl (lv_at hl 3 rfl) ?_
          refine lv_iload_n hx hb dX8_resting_53 rfl (lv_at hl 4 rfl) ?_
          refine lv_aload_n hx hb dX8_resting_54 rfl (lv_at hl 2 rfl) ?_
          refine va_get (D := D) (ci := 8) (v := .ref mpa) (C := RX8) (T := TX8) (N := 38) hx hb hts hi_X8_resting_8 hown hK hP 0 rfl rfl 12 (by decide) (hts (.fieldLink RX8 32 "TheLiningsInItModel" "part" "[I") (List.mem_of_getElem? (i := 2) rfl)) (fun _ h9 => h9) rfl dX8_resting_55 ?_
          refine lv_iload_n hx hb dX8_resting_58 rfl (lv_at hl 3 rfl) ?_
          refine va_iald hx hb hK hP 2 0 rfl rfl (zf_in (by omega) (by omega)) dX8_resting_59 ?_
          refine lv_topi (fun x_76 ex_76 => ?_)
          have bx_76 : 0 ≤ x_76.toInt ∧ x_76.toInt ≤ 9 := by rw [ex_76]; exact hp_gpa _
          refine lv_isub hx hb dX8_resting_60 ?_
          refine lv_topi (fun x_77 ex_77 => ?_)
          skip
          refine zw_V (As := [.int p_, .int x_77]) (rest := [.int r_72]) (wr := []) ⟨hx, hb, hml, hown, hts⟩ (c_M_pulling l D cI cJ cZ cP cS po m0 mrf mki mpa mta mla msl mco mhe mso msi msh mce mca mwo mnu mte mwa mke mma mth mtr (npu) (nte) (nat_) (nde) (nto) (nse) (nhu) (nga) (nsd) (nfa) (nba) (npl) (nen) (nnu) (nwr) (q_74) (nik) gki gpa q_75 (p_) (x_77) hy0 hy1 hy2 hy3 hy4 hy5 hy6 hy7 hy8 hy9 hbq_74.1 hbq_74.2 hy12 hy13 hy14 hy15 hbq_74.1 (by omega) hp_gki hp_gpa H.size) (cwV 2 hts gX8_resting_X8_pulling rfl rfl rfl ⟨rfl, dh_X8_pulling⟩ ⟨Nat.le_of_ble_eq_true rfl, Nat.le_of_ble_eq_true rfl⟩) hK hN (hZ.kept hS) hP hD hS hA [0, 1, 2, 3] [] rfl rfl (by decide) (by decide) (by decide) (va_recv (q := (RX8, TX8, 38)) hK hP (ci := 8) (q0 := 0) rfl rfl) rfl hl.1 rfl (Nat.le_of_ble_eq_true rfl) dX8_resting_61 ⟨Nat.le_of_ble_eq_true rfl, Nat.le_of_ble_eq_true rfl⟩ (fun r_78 u_79 H locs hr_78 hP hD hS => ?_)
          obtain ⟨q_80, q_81⟩ := u_79
          try dsimp only at hr_78
          obtain ⟨hbq_80, hsr_78_0, hr_78⟩ := hr_78
          have h9R := zRe (ws' := [(zMO m0 npu nte nat_ nde nto nse nhu nga nsd nfa mrf mki mpa mta mla msl mco mhe mso msi msh mce mca mwo mnu mte nba npl nen nnu nwr mwa mke mma mth mtr q_80 nik), (mki, .inl (cI, 8, .inl gki)), (mpa, .inl (cI, 8, .inl gpa)), (mtr, .inl (cI, 20, .inl q_81))]) hP hD rfl
          clear hP hD
          obtain ⟨hP, hD⟩ := h9R
          refine lv_ixor hx hb dX8_resting_64 ?_
          refine lv_topi (fun x_82 ex_82 => ?_)
          refine lv_istore (lv' := [(4, .int x_82), (3, .int 3), (0, .ref m0), (1, .int p_), (2, .int x)]) hx hb dX8_resting_65 hl (by decide) rfl (fun ls hl => ?_)
          refine lv_iload_n hx hb dX8_resting_67 rfl (lv_at hl 1 rfl) ?_
          refine lv_iconst (v := 4) hx hb dX8_resting_68 (by decide) ?_
          refine lv_icmp_eq (tgt := 78) hx hb dX8_resting_69 (by decide) (fun c_83 => ?_) (fun c_83 => ?_)
          · exact absurd c_83 (by decide)
          · refine lv_iload_n hx hb dX8_resting_72 rfl (lv_at hl 1 rfl) ?_
            refine lv_bipush (v := 6) hx hb dX8_resting_73 (by decide) ?_
            refine lv_icmp_ne (tgt := 84) hx hb dX8_resting_75 (by decide) (fun c_84 => ?_) (fun c_84 => ?_)
            · refine lv_iload_n hx hb dX8_resting_84 rfl (lv_at hl 1 rfl) ?_
              refine lv_iconst (v := 5) hx hb dX8_resting_85 (by decide) ?_
              refine lv_icmp_ne (tgt := 96) hx hb dX8_resting_86 (by decide) (fun c_85 => ?_) (fun c_85 => ?_)
              · refine lv_iload hx hb dX8_resting_96 (lv_at hl 0 rfl) ?_
                exact W.iret (v := x_82) hx hb hr (fun t ht hW => ⟨⟨x_82, (q_80, q_81), rfl, ⟨(show 0 ≤ q_80.toInt ∧ q_80.toInt ≤ 2000 from hbq_80), (show q_80.toInt ≤ nra.toInt + 16 from by omega), trivial⟩, zRet ht hP hD [0, 1, 2, 3] (by decide) rfl⟩, hS.F ht⟩) hS.2.2 dX8_resting_98
              · exact absurd c_85 (by decide)
            · exact absurd c_84 (by decide)
        · exact absurd c_67 (by decide)
      · exact absurd c_66 (by decide)
  · have kc4 : (4 : Int32).toInt = 4 := by decide
    refine lv_iload_n hx hb dX8_resting_7 rfl (lv_at hl 0 rfl) ?_
    refine lv_iconst (v := 4) hx hb dX8_resting_8 (by decide) ?_
    refine lv_icmp_eq (tgt := 18) hx hb dX8_resting_9 (by decide) (fun c_86 => ?_) (fun c_86 => ?_)
    · refine lv_aload_n hx hb dX8_resting_18 rfl (lv_at hl 1 rfl) ?_
      refine lv_bipush (v := 50) hx hb dX8_resting_19 (by decide) ?_
      skip
      refine zw_Vv (As := [.int 50]) (rest := []) (wr := [(mki, .inl (cI, 8, .inl gki)), (mpa, .inl (cI, 8, .inl gpa))]) ⟨hx, hb, hml, hown, hts⟩ (c_M_body l D cI cJ cZ cP cS po m0 mrf mki mpa mta mla msl mco mhe mso msi msh mce mca mwo mnu mte mwa mke mma mth mtr (npu) (nte) (nat_) (nde) (nto) (nse) (nhu) (nga) (nsd) (nfa) (nba) (npl) (nen) (nnu) (nwr) (nra) (nik) gtr (50) hy0 hy1 hy2 hy3 hy4 hy5 hy6 hy7 hy8 hy9 hy10 hy11 hy12 hy13 H.size) (cwV 1 hts gX8_resting_X8_body rfl rfl rfl ⟨rfl, dh_X8_body⟩ ⟨Nat.le_of_ble_eq_true rfl, Nat.le_of_ble_eq_true rfl⟩) hK hN (hZ.kept hS) hP hD hS hA [0, 3] [1, 2] rfl rfl (by decide) (by decide) (by decide) (va_recv (q := (RX8, TX8, 38)) hK hP (ci := 8) (q0 := 0) rfl rfl) rfl hl.1 rfl (Nat.le_of_ble_eq_true rfl) dX8_resting_21 ⟨Nat.le_of_ble_eq_true rfl, Nat.le_of_ble_eq_true rfl⟩ (fun u_88 H locs hr_87 hP hD hS => ?_)
      obtain ⟨q_89, q_90⟩ := u_88
      try dsimp only at hr_87
      obtain ⟨hbq_89, hr_87⟩ := hr_87
      have h9R := zRe (ws' := [(mki, .inl (cI, 8, .inl gki)), (mpa, .inl (cI, 8, .inl gpa)), (zMO m0 npu nte nat_ nde nto nse nhu nga nsd nfa mrf mki mpa mta mla msl mco mhe mso msi msh mce mca mwo mnu mte nba npl nen nnu nwr mwa mke mma mth mtr q_89 nik), (mtr, .inl (cI, 20, .inl q_90))]) hP hD rfl
      clear hP hD
      obtain ⟨hP, hD⟩ := h9R
      refine lv_iload_n hx hb dX8_resting_24 rfl (lv_at hl 0 rfl) ?_
      refine lv_iconst (v := 5) hx hb dX8_resting_25 (by decide) ?_
      refine lv_icmp_ne (tgt := 35) hx hb dX8_resting_26 (by decide) (fun c_91 => ?_) (fun c_91 => ?_)
      · refine lv_aload_n hx hb dX8_resting_35 rfl (lv_at hl 1 rfl) ?_
        refine lv_bipush (v := 12) hx hb dX8_resting_36 (by decide) ?_
        skip
        refine zw_Vv (As := [.int 12]) (rest := []) (wr := [(mki, .inl (cI, 8, .inl gki)), (mpa, .inl (cI, 8, .inl gpa))]) ⟨hx, hb, hml, hown, hts⟩ (c_M_body l D cI cJ cZ cP cS po m0 mrf mki mpa mta mla msl mco mhe mso msi msh mce mca mwo mnu mte mwa mke mma mth mtr (npu) (nte) (nat_) (nde) (nto) (nse) (nhu) (nga) (nsd) (nfa) (nba) (npl) (nen) (nnu) (nwr) (q_89) (nik) q_90 (12) hy0 hy1 hy2 hy3 hy4 hy5 hy6 hy7 hy8 hy9 (by omega) (by omega) hy12 hy13 H.size) (cwV 1 hts gX8_resting_X8_body rfl rfl rfl ⟨rfl, dh_X8_body⟩ ⟨Nat.le_of_ble_eq_true rfl, Nat.le_of_ble_eq_true rfl⟩) hK hN (hZ.kept hS) hP hD hS hA [2, 3] [0, 1] rfl rfl (by decide) (by decide) (by decide) (va_recv (q := (RX8, TX8, 38)) hK hP (ci := 8) (q0 := 2) rfl rfl) rfl hl.1 rfl (Nat.le_of_ble_eq_true rfl) dX8_resting_38 ⟨Nat.le_of_ble_eq_true rfl, Nat.le_of_ble_eq_true rfl⟩ (fun u_93 H locs hr_92 hP hD hS => ?_)
        obtain ⟨q_94, q_95⟩ := u_93
        try dsimp only at hr_92
        obtain ⟨hbq_94, hr_92⟩ := hr_92
        have h9R := zRe (ws' := [(mki, .inl (cI, 8, .inl gki)), (mpa, .inl (cI, 8, .inl gpa)), (zMO m0 npu nte nat_ nde nto nse nhu nga nsd nfa mrf mki mpa mta mla msl mco mhe mso msi msh mce mca mwo mnu mte nba npl nen nnu nwr mwa mke mma mth mtr q_94 nik), (mtr, .inl (cI, 20, .inl q_95))]) hP hD rfl
        clear hP hD
        obtain ⟨hP, hD⟩ := h9R
        refine lv_aload_n hx hb dX8_resting_41 rfl (lv_at hl 1 rfl) ?_
        refine lv_iload_n hx hb dX8_resting_42 rfl (lv_at hl 2 rfl) ?_
        refine lv_iload_n hx hb dX8_resting_43 rfl (lv_at hl 3 rfl) ?_
        skip
        refine zw_V (As := [.int p_, .int x]) (rest := []) (wr := []) ⟨hx, hb, hml, hown, hts⟩ (c_M_freeing l D cI cJ cZ cP cS po m0 mrf mki mpa mta mla msl mco mhe mso msi msh mce mca mwo mnu mte mwa mke mma mth mtr (npu) (nte) (nat_) (nde) (nto) (nse) (nhu) (nga) (nsd) (nfa) (nba) (npl) (nen) (nnu) (nwr) (q_94) (nik) gki gpa q_95 (p_) (x) hy0 hy1 hy2 hy3 hy4 hy5 hy6 hy7 hy8 hy9 (by omega) (by omega) hy12 hy13 hy14 hy15 (by omega) (by omega) hp_gki hp_gpa H.size) (cwV 2 hts gX8_resting_X8_freeing rfl rfl rfl ⟨rfl, dh_X8_freeing⟩ ⟨Nat.le_of_ble_eq_true rfl, Nat.le_of_ble_eq_true rfl⟩) hK hN (hZ.kept hS) hP hD hS hA [2, 0, 1, 3] [] rfl rfl (by decide) (by decide) (by decide) (va_recv (q := (RX8, TX8, 38)) hK hP (ci := 8) (q0 := 2) rfl rfl) rfl hl.1 rfl (Nat.le_of_ble_eq_true rfl) dX8_resting_44 ⟨Nat.le_of_ble_eq_true rfl, Nat.le_of_ble_eq_true rfl⟩ (fun r_96 u_97 H locs hr_96 hP hD hS => ?_)
        obtain ⟨q_98, q_99⟩ := u_97
        try dsimp only at hr_96
        obtain ⟨hbq_98, hsr_96_0, hr_96⟩ := hr_96
        have h9R := zRe (ws' := [(zMO m0 npu nte nat_ nde nto nse nhu nga nsd nfa mrf mki mpa mta mla msl mco mhe mso msi msh mce mca mwo mnu mte nba npl nen nnu nwr mwa mke mma mth mtr q_98 nik), (mki, .inl (cI, 8, .inl gki)), (mpa, .inl (cI, 8, .inl gpa)), (mtr, .inl (cI, 20, .inl q_99))]) hP hD rfl
        clear hP hD
        obtain ⟨hP, hD⟩ := h9R
        refine lv_istore (lv' := [(4, .int r_96), (3, .int 4), (0, .ref m0), (1, .int p_), (2, .int x)]) hx hb dX8_resting_47 hl (by decide) rfl (fun ls hl => ?_)
        refine lv_iload hx hb dX8_resting_49 (lv_at hl 0 rfl) ?_
        refine lv_aload_n hx hb dX8_resting_51 rfl (lv_at hl 2 rfl) ?_
        refine lv_iload_n hx hb dX8_resting_52 rfl (lv_at hl 3 rfl) ?_
        refine lv_iload_n hx hb dX8_resting_53 rfl (lv_at hl 4 rfl) ?_
        refine lv_aload_n hx hb dX8_resting_54 rfl (lv_at hl 2 rfl) ?_
        refine va_get (D := D) (ci := 8) (v := .ref mpa) (C := RX8) (T := TX8) (N := 38) hx hb hts hi_X8_resting_8 hown hK hP 0 rfl rfl 12 (by decide) (hts (.fieldLink RX8 32 "TheLiningsInItModel" "part" "[I") (List.mem_of_getElem? (i := 2) rfl)) (fun _ h9 => h9) rfl dX8_resting_55 ?_
        refine lv_iload_n hx hb dX8_resting_58 rfl (lv_at hl 3 rfl) ?_
        refine va_iald hx hb hK hP 2 0 rfl rfl (zf_in (by omega) (by omega)) dX8_resting_59 ?_
        refine lv_topi (fun x_100 ex_100 => ?_)
        have bx_100 : 0 ≤ x_100.toInt ∧ x_100.toInt ≤ 9 := by rw [ex_100]; exact hp_gpa _
        refine lv_isub hx hb dX8_resting_60 ?_
        refine lv_topi (fun x_101 ex_101 => ?_)
        skip
        refine zw_V (As := [.int p_, .int x_101]) (rest := [.int r_96]) (wr := []) ⟨hx, hb, hml, hown, hts⟩ (c_M_pulling l D cI cJ cZ cP cS po m0 mrf mki mpa mta mla msl mco mhe mso msi msh mce mca mwo mnu mte mwa mke mma mth mtr (npu) (nte) (nat_) (nde) (nto) (nse) (nhu) (nga) (nsd) (nfa) (nba) (npl) (nen) (nnu) (nwr) (q_98) (nik) gki gpa q_99 (p_) (x_101) hy0 hy1 hy2 hy3 hy4 hy5 hy6 hy7 hy8 hy9 hbq_98.1 hbq_98.2 hy12 hy13 hy14 hy15 hbq_98.1 (by omega) hp_gki hp_gpa H.size) (cwV 2 hts gX8_resting_X8_pulling rfl rfl rfl ⟨rfl, dh_X8_pulling⟩ ⟨Nat.le_of_ble_eq_true rfl, Nat.le_of_ble_eq_true rfl⟩) hK hN (hZ.kept hS) hP hD hS hA [0, 1, 2, 3] [] rfl rfl (by decide) (by decide) (by decide) (va_recv (q := (RX8, TX8, 38)) hK hP (ci := 8) (q0 := 0) rfl rfl) rfl hl.1 rfl (Nat.le_of_ble_eq_true rfl) dX8_resting_61 ⟨Nat.le_of_ble_eq_true rfl, Nat.le_of_ble_eq_true rfl⟩ (fun r_102 u_103 H locs hr_102 hP hD hS => ?_)
        obtain ⟨q_104, q_105⟩ := u_103
        try dsimp only at hr_102
        obtain ⟨hbq_104, hsr_102_0, hr_102⟩ := hr_102
        have h9R := zRe (ws' := [(zMO m0 npu nte nat_ nde nto nse nhu nga nsd nfa mrf mki mpa mta mla msl mco mhe mso msi msh mce mca mwo mnu mte nba npl nen nnu nwr mwa mke mma mth mtr q_104 nik), (mki, .inl (cI, 8, .inl gki)), (mpa, .inl (cI, 8, .inl gpa)), (mtr, .inl (cI, 20, .inl q_105))]) hP hD rfl
        clear hP hD
        obtain ⟨hP, hD⟩ := h9R
        refine lv_ixor hx hb dX8_resting_64 ?_
        refine lv_topi (fun x_106 ex_106 => ?_)
        refine lv_istore (lv' := [(4, .int x_106), (3, .int 4), (0, .ref m0), (1, .int p_), (2, .int x)]) hx hb dX8_resting_65 hl (by decide) rfl (fun ls hl => ?_)
        refine lv_iload_n hx hb dX8_resting_67 rfl (lv_at hl 1 rfl) ?_
        refine lv_iconst (v := 4) hx hb dX8_resting_68 (by decide) ?_
        refine lv_icmp_eq (tgt := 78) hx hb dX8_resting_69 (by decide) (fun c_107 => ?_) (fun c_107 => ?_)
        · refine lv_iload hx hb dX8_resting_78 (lv_at hl 0 rfl) ?_
          refine lv_ineg hx hb dX8_resting_80 ?_
          refine lv_topi (fun x_108 ex_108 => ?_)
          refine lv_goto (tgt := 98) hx hb dX8_resting_81 (by decide) ?_
          exact W.iret (v := x_108) hx hb hr (fun t ht hW => ⟨⟨x_108, (q_104, q_105), rfl, ⟨(show 0 ≤ q_104.toInt ∧ q_104.toInt ≤ 2000 from hbq_104), (show q_104.toInt ≤ nra.toInt + 16 from by omega), trivial⟩, zRet ht hP hD [0, 1, 2, 3] (by decide) rfl⟩, hS.F ht⟩) hS.2.2 dX8_resting_98
        · exact absurd c_107 (by decide)
      · exact absurd c_91 (by decide)
    · exact absurd c_86 (by decide)
  · have kc5 : (5 : Int32).toInt = 5 := by decide
    refine lv_iload_n hx hb dX8_resting_7 rfl (lv_at hl 0 rfl) ?_
    refine lv_iconst (v := 4) hx hb dX8_resting_8 (by decide) ?_
    refine lv_icmp_eq (tgt := 18) hx hb dX8_resting_9 (by decide) (fun c_109 => ?_) (fun c_109 => ?_)
    · exact absurd c_109 (by decide)
    · refine lv_iload_n hx hb dX8_resting_12 rfl (lv_at hl 0 rfl) ?_
      refine lv_bipush (v := 6) hx hb dX8_resting_13 (by decide) ?_
      refine lv_icmp_ne (tgt := 24) hx hb dX8_resting_15 (by decide) (fun c_110 => ?_) (fun c_110 => ?_)
      · refine lv_iload_n hx hb dX8_resting_24 rfl (lv_at hl 0 rfl) ?_
        refine lv_iconst (v := 5) hx hb dX8_resting_25 (by decide) ?_
        refine lv_icmp_ne (tgt := 35) hx hb dX8_resting_26 (by decide) (fun c_111 => ?_) (fun c_111 => ?_)
        · exact absurd c_111 (by decide)
        · refine lv_aload_n hx hb dX8_resting_29 rfl (lv_at hl 1 rfl) ?_
          refine lv_bipush (v := 60) hx hb dX8_resting_30 (by decide) ?_
          skip
          refine zw_Vv (As := [.int 60]) (rest := []) (wr := [(mki, .inl (cI, 8, .inl gki)), (mpa, .inl (cI, 8, .inl gpa))]) ⟨hx, hb, hml, hown, hts⟩ (c_M_body l D cI cJ cZ cP cS po m0 mrf mki mpa mta mla msl mco mhe mso msi msh mce mca mwo mnu mte mwa mke mma mth mtr (npu) (nte) (nat_) (nde) (nto) (nse) (nhu) (nga) (nsd) (nfa) (nba) (npl) (nen) (nnu) (nwr) (nra) (nik) gtr (60) hy0 hy1 hy2 hy3 hy4 hy5 hy6 hy7 hy8 hy9 hy10 hy11 hy12 hy13 H.size) (cwV 1 hts gX8_resting_X8_body rfl rfl rfl ⟨rfl, dh_X8_body⟩ ⟨Nat.le_of_ble_eq_true rfl, Nat.le_of_ble_eq_true rfl⟩) hK hN (hZ.kept hS) hP hD hS hA [0, 3] [1, 2] rfl rfl (by decide) (by decide) (by decide) (va_recv (q := (RX8, TX8, 38)) hK hP (ci := 8) (q0 := 0) rfl rfl) rfl hl.1 rfl (Nat.le_of_ble_eq_true rfl) dX8_resting_32 ⟨Nat.le_of_ble_eq_true rfl, Nat.le_of_ble_eq_true rfl⟩ (fun u_113 H locs hr_112 hP hD hS => ?_)
          obtain ⟨q_114, q_115⟩ := u_113
          try dsimp only at hr_112
          obtain ⟨hbq_114, hr_112⟩ := hr_112
          have h9R := zRe (ws' := [(mki, .inl (cI, 8, .inl gki)), (mpa, .inl (cI, 8, .inl gpa)), (zMO m0 npu nte nat_ nde nto nse nhu nga nsd nfa mrf mki mpa mta mla msl mco mhe mso msi msh mce mca mwo mnu mte nba npl nen nnu nwr mwa mke mma mth mtr q_114 nik), (mtr, .inl (cI, 20, .inl q_115))]) hP hD rfl
          clear hP hD
          obtain ⟨hP, hD⟩ := h9R
          refine lv_aload_n hx hb dX8_resting_35 rfl (lv_at hl 1 rfl) ?_
          refine lv_bipush (v := 12) hx hb dX8_resting_36 (by decide) ?_
          skip
          refine zw_Vv (As := [.int 12]) (rest := []) (wr := [(mki, .inl (cI, 8, .inl gki)), (mpa, .inl (cI, 8, .inl gpa))]) ⟨hx, hb, hml, hown, hts⟩ (c_M_body l D cI cJ cZ cP cS po m0 mrf mki mpa mta mla msl mco mhe mso msi msh mce mca mwo mnu mte mwa mke mma mth mtr (npu) (nte) (nat_) (nde) (nto) (nse) (nhu) (nga) (nsd) (nfa) (nba) (npl) (nen) (nnu) (nwr) (q_114) (nik) q_115 (12) hy0 hy1 hy2 hy3 hy4 hy5 hy6 hy7 hy8 hy9 (by omega) (by omega) hy12 hy13 H.size) (cwV 1 hts gX8_resting_X8_body rfl rfl rfl ⟨rfl, dh_X8_body⟩ ⟨Nat.le_of_ble_eq_true rfl, Nat.le_of_ble_eq_true rfl⟩) hK hN (hZ.kept hS) hP hD hS hA [2, 3] [0, 1] rfl rfl (by decide) (by decide) (by decide) (va_recv (q := (RX8, TX8, 38)) hK hP (ci := 8) (q0 := 2) rfl rfl) rfl hl.1 rfl (Nat.le_of_ble_eq_true rfl) dX8_resting_38 ⟨Nat.le_of_ble_eq_true rfl, Nat.le_of_ble_eq_true rfl⟩ (fun u_117 H locs hr_116 hP hD hS => ?_)
          obtain ⟨q_118, q_119⟩ := u_117
          try dsimp only at hr_116
          obtain ⟨hbq_118, hr_116⟩ := hr_116
          have h9R := zRe (ws' := [(mki, .inl (cI, 8, .inl gki)), (mpa, .inl (cI, 8, .inl gpa)), (zMO m0 npu nte nat_ nde nto nse nhu nga nsd nfa mrf mki mpa mta mla msl mco mhe mso msi msh mce mca mwo mnu mte nba npl nen nnu nwr mwa mke mma mth mtr q_118 nik), (mtr, .inl (cI, 20, .inl q_119))]) hP hD rfl
          clear hP hD
          obtain ⟨hP, hD⟩ := h9R
          refine lv_aload_n hx hb dX8_resting_41 rfl (lv_at hl 1 rfl) ?_
          refine lv_iload_n hx hb dX8_resting_42 rfl (lv_at hl 2 rfl) ?_
          refine lv_iload_n hx hb dX8_resting_43 rfl (lv_at hl 3 rfl) ?_
          skip
          refine zw_V (As := [.int p_, .int x]) (rest := []) (wr := []) ⟨hx, hb, hml, hown, hts⟩ (c_M_freeing l D cI cJ cZ cP cS po m0 mrf mki mpa mta mla msl mco mhe mso msi msh mce mca mwo mnu mte mwa mke mma mth mtr (npu) (nte) (nat_) (nde) (nto) (nse) (nhu) (nga) (nsd) (nfa) (nba) (npl) (nen) (nnu) (nwr) (q_118) (nik) gki gpa q_119 (p_) (x) hy0 hy1 hy2 hy3 hy4 hy5 hy6 hy7 hy8 hy9 (by omega) (by omega) hy12 hy13 hy14 hy15 (by omega) (by omega) hp_gki hp_gpa H.size) (cwV 2 hts gX8_resting_X8_freeing rfl rfl rfl ⟨rfl, dh_X8_freeing⟩ ⟨Nat.le_of_ble_eq_true rfl, Nat.le_of_ble_eq_true rfl⟩) hK hN (hZ.kept hS) hP hD hS hA [2, 0, 1, 3] [] rfl rfl (by decide) (by decide) (by decide) (va_recv (q := (RX8, TX8, 38)) hK hP (ci := 8) (q0 := 2) rfl rfl) rfl hl.1 rfl (Nat.le_of_ble_eq_true rfl) dX8_resting_44 ⟨Nat.le_of_ble_eq_true rfl, Nat.le_of_ble_eq_true rfl⟩ (fun r_120 u_121 H locs hr_120 hP hD hS => ?_)
          obtain ⟨q_122, q_123⟩ := u_121
          try dsimp only at hr_120
          obtain ⟨hbq_122, hsr_120_0, hr_120⟩ := hr_120
          have h9R := zRe (ws' := [(zMO m0 npu nte nat_ nde nto nse nhu nga nsd nfa mrf mki mpa mta mla msl mco mhe mso msi msh mce mca mwo mnu mte nba npl nen nnu nwr mwa mke mma mth mtr q_122 nik), (mki, .inl (cI, 8, .inl gki)), (mpa, .inl (cI, 8, .inl gpa)), (mtr, .inl (cI, 20, .inl q_123))]) hP hD rfl
          clear hP hD
          obtain ⟨hP, hD⟩ := h9R
          refine lv_istore (lv' := [(4, .int r_120), (3, .int 5), (0, .ref m0), (1, .int p_), (2, .int x)]) hx hb dX8_resting_47 hl (by decide) rfl (fun ls hl => ?_)
          refine lv_iload hx hb dX8_resting_49 (lv_at hl 0 rfl) ?_
          refine lv_aload_n hx hb dX8_resting_51 rfl (lv_at hl 2 rfl) ?_
          refine lv_iload_n hx hb dX8_resting_52 rfl (lv_at hl 3 rfl) ?_
          refine lv_iload_n hx hb dX8_resting_53 rfl (lv_at hl 4 rfl) ?_
          refine lv_aload_n hx hb dX8_resting_54 rfl (lv_at hl 2 rfl) ?_
          refine va_get (D := D) (ci := 8) (v := .ref mpa) (C := RX8) (T := TX8) (N := 38) hx hb hts hi_X8_resting_8 hown hK hP 0 rfl rfl 12 (by decide) (hts (.fieldLink RX8 32 "TheLiningsInItModel" "part" "[I") (List.mem_of_getElem? (i := 2) rfl)) (fun _ h9 => h9) rfl dX8_resting_55 ?_
          refine lv_iload_n hx hb dX8_resting_58 rfl (lv_at hl 3 rfl) ?_
          refine va_iald hx hb hK hP 2 0 rfl rfl (zf_in (by omega) (by omega)) dX8_resting_59 ?_
          refine lv_topi (fun x_124 ex_124 => ?_)
          have bx_124 : 0 ≤ x_124.toInt ∧ x_124.toInt ≤ 9 := by rw [ex_124]; exact hp_gpa _
          refine lv_isub hx hb dX8_resting_60 ?_
          refine lv_topi (fun x_125 ex_125 => ?_)
          skip
          refine zw_V (As := [.int p_, .int x_125]) (rest := [.int r_120]) (wr := []) ⟨hx, hb, hml, hown, hts⟩ (c_M_pulling l D cI cJ cZ cP cS po m0 mrf mki mpa mta mla msl mco mhe mso msi msh mce mca mwo mnu mte mwa mke mma mth mtr (npu) (nte) (nat_) (nde) (nto) (nse) (nhu) (nga) (nsd) (nfa) (nba) (npl) (nen) (nnu) (nwr) (q_122) (nik) gki gpa q_123 (p_) (x_125) hy0 hy1 hy2 hy3 hy4 hy5 hy6 hy7 hy8 hy9 hbq_122.1 hbq_122.2 hy12 hy13 hy14 hy15 hbq_122.1 (by omega) hp_gki hp_gpa H.size) (cwV 2 hts gX8_resting_X8_pulling rfl rfl rfl ⟨rfl, dh_X8_pulling⟩ ⟨Nat.le_of_ble_eq_true rfl, Nat.le_of_ble_eq_true rfl⟩) hK hN (hZ.kept hS) hP hD hS hA [0, 1, 2, 3] [] rfl rfl (by decide) (by decide) (by decide) (va_recv (q := (RX8, TX8, 38)) hK hP (ci := 8) (q0 := 0) rfl rfl) rfl hl.1 rfl (Nat.le_of_ble_eq_true rfl) dX8_resting_61 ⟨Nat.le_of_ble_eq_true rfl, Nat.le_of_ble_eq_true rfl⟩ (fun r_126 u_127 H locs hr_126 hP hD hS => ?_)
          obtain ⟨q_128, q_129⟩ := u_127
          try dsimp only at hr_126
          obtain ⟨hbq_128, hsr_126_0, hr_126⟩ := hr_126
          have h9R := zRe (ws' := [(zMO m0 npu nte nat_ nde nto nse nhu nga nsd nfa mrf mki mpa mta mla msl mco mhe mso msi msh mce mca mwo mnu mte nba npl nen nnu nwr mwa mke mma mth mtr q_128 nik), (mki, .inl (cI, 8, .inl gki)), (mpa, .inl (cI, 8, .inl gpa)), (mtr, .inl (cI, 20, .inl q_129))]) hP hD rfl
          clear hP hD
          obtain ⟨hP, hD⟩ := h9R
          refine lv_ixor hx hb dX8_resting_64 ?_
          refine lv_topi (fun x_130 ex_130 => ?_)
          refine lv_istore (lv' := [(4, .int x_130), (3, .int 5), (0, .ref m0), (1, .int p_), (2, .int x)]) hx hb dX8_resting_65 hl (by decide) rfl (fun ls hl => ?_)
          refine lv_iload_n hx hb dX8_resting_67 rfl (lv_at hl 1 rfl) ?_
          refine lv_iconst (v := 4) hx hb dX8_resting_68 (by decide) ?_
          refine lv_icmp_eq (tgt := 78) hx hb dX8_resting_69 (by decide) (fun c_131 => ?_) (fun c_131 => ?_)
          · exact absurd c_131 (by decide)
          · refine lv_iload_n hx hb dX8_resting_72 rfl (lv_at hl 1 rfl) ?_
            refine lv_bipush (v := 6) hx hb dX8_resting_73 (by decide) ?_
            refine lv_icmp_ne (tgt := 84) hx hb dX8_resting_75 (by decide) (fun c_132 => ?_) (fun c_132 => ?_)
            · refine lv_iload_n hx hb dX8_resting_84 rfl (lv_at hl 1 rfl) ?_
              refine lv_iconst (v := 5) hx hb dX8_resting_85 (by decide) ?_
              refine lv_icmp_ne (tgt := 96) hx hb dX8_resting_86 (by decide) (fun c_133 => ?_) (fun c_133 => ?_)
              · exact absurd c_133 (by decide)
              · refine lv_iload hx hb dX8_resting_89 (lv_at hl 0 rfl) ?_
                refine lv_iconst (v := 5) hx hb dX8_resting_91 (by decide) ?_
                refine lv_ixor hx hb dX8_resting_92 ?_
                refine lv_topi (fun x_134 ex_134 => ?_)
                refine lv_goto (tgt := 98) hx hb dX8_resting_93 (by decide) ?_
                exact W.iret (v := x_134) hx hb hr (fun t ht hW => ⟨⟨x_134, (q_128, q_129), rfl, ⟨(show 0 ≤ q_128.toInt ∧ q_128.toInt ≤ 2000 from hbq_128), (show q_128.toInt ≤ nra.toInt + 16 from by omega), trivial⟩, zRet ht hP hD [0, 1, 2, 3] (by decide) rfl⟩, hS.F ht⟩) hS.2.2 dX8_resting_98
            · exact absurd c_132 (by decide)
      · exact absurd c_110 (by decide)
  · have kc6 : (6 : Int32).toInt = 6 := by decide
    refine lv_iload_n hx hb dX8_resting_7 rfl (lv_at hl 0 rfl) ?_
    refine lv_iconst (v := 4) hx hb dX8_resting_8 (by decide) ?_
    refine lv_icmp_eq (tgt := 18) hx hb dX8_resting_9 (by decide) (fun c_135 => ?_) (fun c_135 => ?_)
    · exact absurd c_135 (by decide)
    · refine lv_iload_n hx hb dX8_resting_12 rfl (lv_at hl 0 rfl) ?_
      refine lv_bipush (v := 6) hx hb dX8_resting_13 (by decide) ?_
      refine lv_icmp_ne (tgt := 24) hx hb dX8_resting_15 (by decide) (fun c_136 => ?_) (fun c_136 => ?_)
      · exact absurd c_136 (by decide)
      · refine lv_aload_n hx hb dX8_resting_18 rfl (lv_at hl 1 rfl) ?_
        refine lv_bipush (v := 50) hx hb dX8_resting_19 (by decide) ?_
        skip
        refine zw_Vv (As := [.int 50]) (rest := []) (wr := [(mki, .inl (cI, 8, .inl gki)), (mpa, .inl (cI, 8, .inl gpa))]) ⟨hx, hb, hml, hown, hts⟩ (c_M_body l D cI cJ cZ cP cS po m0 mrf mki mpa mta mla msl mco mhe mso msi msh mce mca mwo mnu mte mwa mke mma mth mtr (npu) (nte) (nat_) (nde) (nto) (nse) (nhu) (nga) (nsd) (nfa) (nba) (npl) (nen) (nnu) (nwr) (nra) (nik) gtr (50) hy0 hy1 hy2 hy3 hy4 hy5 hy6 hy7 hy8 hy9 hy10 hy11 hy12 hy13 H.size) (cwV 1 hts gX8_resting_X8_body rfl rfl rfl ⟨rfl, dh_X8_body⟩ ⟨Nat.le_of_ble_eq_true rfl, Nat.le_of_ble_eq_true rfl⟩) hK hN (hZ.kept hS) hP hD hS hA [0, 3] [1, 2] rfl rfl (by decide) (by decide) (by decide) (va_recv (q := (RX8, TX8, 38)) hK hP (ci := 8) (q0 := 0) rfl rfl) rfl hl.1 rfl (Nat.le_of_ble_eq_true rfl) dX8_resting_21 ⟨Nat.le_of_ble_eq_true rfl, Nat.le_of_ble_eq_true rfl⟩ (fun u_138 H locs hr_137 hP hD hS => ?_)
        obtain ⟨q_139, q_140⟩ := u_138
        try dsimp only at hr_137
        obtain ⟨hbq_139, hr_137⟩ := hr_137
        have h9R := zRe (ws' := [(mki, .inl (cI, 8, .inl gki)), (mpa, .inl (cI, 8, .inl gpa)), (zMO m0 npu nte nat_ nde nto nse nhu nga nsd nfa mrf mki mpa mta mla msl mco mhe mso msi msh mce mca mwo mnu mte nba npl nen nnu nwr mwa mke mma mth mtr q_139 nik), (mtr, .inl (cI, 20, .inl q_140))]) hP hD rfl
        clear hP hD
        obtain ⟨hP, hD⟩ := h9R
        refine lv_iload_n hx hb dX8_resting_24 rfl (lv_at hl 0 rfl) ?_
        refine lv_iconst (v := 5) hx hb dX8_resting_25 (by decide) ?_
        refine lv_icmp_ne (tgt := 35) hx hb dX8_resting_26 (by decide) (fun c_141 => ?_) (fun c_141 => ?_)
        · refine lv_aload_n hx hb dX8_resting_35 rfl (lv_at hl 1 rfl) ?_
          refine lv_bipush (v := 12) hx hb dX8_resting_36 (by decide) ?_
          skip
          refine zw_Vv (As := [.int 12]) (rest := []) (wr := [(mki, .inl (cI, 8, .inl gki)), (mpa, .inl (cI, 8, .inl gpa))]) ⟨hx, hb, hml, hown, hts⟩ (c_M_body l D cI cJ cZ cP cS po m0 mrf mki mpa mta mla msl mco mhe mso msi msh mce mca mwo mnu mte mwa mke mma mth mtr (npu) (nte) (nat_) (nde) (nto) (nse) (nhu) (nga) (nsd) (nfa) (nba) (npl) (nen) (nnu) (nwr) (q_139) (nik) q_140 (12) hy0 hy1 hy2 hy3 hy4 hy5 hy6 hy7 hy8 hy9 (by omega) (by omega) hy12 hy13 H.size) (cwV 1 hts gX8_resting_X8_body rfl rfl rfl ⟨rfl, dh_X8_body⟩ ⟨Nat.le_of_ble_eq_true rfl, Nat.le_of_ble_eq_true rfl⟩) hK hN (hZ.kept hS) hP hD hS hA [2, 3] [0, 1] rfl rfl (by decide) (by decide) (by decide) (va_recv (q := (RX8, TX8, 38)) hK hP (ci := 8) (q0 := 2) rfl rfl) rfl hl.1 rfl (Nat.le_of_ble_eq_true rfl) dX8_resting_38 ⟨Nat.le_of_ble_eq_true rfl, Nat.le_of_ble_eq_true rfl⟩ (fun u_143 H locs hr_142 hP hD hS => ?_)
          obtain ⟨q_144, q_145⟩ := u_143
          try dsimp only at hr_142
          obtain ⟨hbq_144, hr_142⟩ := hr_142
          have h9R := zRe (ws' := [(mki, .inl (cI, 8, .inl gki)), (mpa, .inl (cI, 8, .inl gpa)), (zMO m0 npu nte nat_ nde nto nse nhu nga nsd nfa mrf mki mpa mta mla msl mco mhe mso msi msh mce mca mwo mnu mte nba npl nen nnu nwr mwa mke mma mth mtr q_144 nik), (mtr, .inl (cI, 20, .inl q_145))]) hP hD rfl
          clear hP hD
          obtain ⟨hP, hD⟩ := h9R
          refine lv_aload_n hx hb dX8_resting_41 rfl (lv_at hl 1 rfl) ?_
          refine lv_iload_n hx hb dX8_resting_42 rfl (lv_at hl 2 rfl) ?_
          refine lv_iload_n hx hb dX8_resting_43 rfl (lv_at hl 3 rfl) ?_
          skip
          refine zw_V (As := [.int p_, .int x]) (rest := []) (wr := []) ⟨hx, hb, hml, hown, hts⟩ (c_M_freeing l D cI cJ cZ cP cS po m0 mrf mki mpa mta mla msl mco mhe mso msi msh mce mca mwo mnu mte mwa mke mma mth mtr (npu) (nte) (nat_) (nde) (nto) (nse) (nhu) (nga) (nsd) (nfa) (nba) (npl) (nen) (nnu) (nwr) (q_144) (nik) gki gpa q_145 (p_) (x) hy0 hy1 hy2 hy3 hy4 hy5 hy6 hy7 hy8 hy9 (by omega) (by omega) hy12 hy13 hy14 hy15 (by omega) (by omega) hp_gki hp_gpa H.size) (cwV 2 hts gX8_resting_X8_freeing rfl rfl rfl ⟨rfl, dh_X8_freeing⟩ ⟨Nat.le_of_ble_eq_true rfl, Nat.le_of_ble_eq_true rfl⟩) hK hN (hZ.kept hS) hP hD hS hA [2, 0, 1, 3] [] rfl rfl (by decide) (by decide) (by decide) (va_recv (q := (RX8, TX8, 38)) hK hP (ci := 8) (q0 := 2) rfl rfl) rfl hl.1 rfl (Nat.le_of_ble_eq_true rfl) dX8_resting_44 ⟨Nat.le_of_ble_eq_true rfl, Nat.le_of_ble_eq_true rfl⟩ (fun r_146 u_147 H locs hr_146 hP hD hS => ?_)
          obtain ⟨q_148, q_149⟩ := u_147
          try dsimp only at hr_146
          obtain ⟨hbq_148, hsr_146_0, hr_146⟩ := hr_146
          have h9R := zRe (ws' := [(zMO m0 npu nte nat_ nde nto nse nhu nga nsd nfa mrf mki mpa mta mla msl mco mhe mso msi msh mce mca mwo mnu mte nba npl nen nnu nwr mwa mke mma mth mtr q_148 nik), (mki, .inl (cI, 8, .inl gki)), (mpa, .inl (cI, 8, .inl gpa)), (mtr, .inl (cI, 20, .inl q_149))]) hP hD rfl
          clear hP hD
          obtain ⟨hP, hD⟩ := h9R
          refine lv_istore (lv' := [(4, .int r_146), (3, .int 6), (0, .ref m0), (1, .int p_), (2, .int x)]) hx hb dX8_resting_47 hl (by decide) rfl (fun ls hl => ?_)
          refine lv_iload hx hb dX8_resting_49 (lv_at hl 0 rfl) ?_
          refine lv_aload_n hx hb dX8_resting_51 rfl (lv_at hl 2 rfl) ?_
          refine lv_iload_n hx hb dX8_resting_52 rfl (lv_at hl 3 rfl) ?_
          refine lv_iload_n hx hb dX8_resting_53 rfl (lv_at hl 4 rfl) ?_
          refine lv_aload_n hx hb dX8_resting_54 rfl (lv_at hl 2 rfl) ?_
          refine va_get (D := D) (ci := 8) (v := .ref mpa) (C := RX8) (T := TX8) (N := 38) hx hb hts hi_X8_resting_8 hown hK hP 0 rfl rfl 12 (by decide) (hts (.fieldLink RX8 32 "TheLiningsInItModel" "part" "[I") (List.mem_of_getElem? (i := 2) rfl)) (fun _ h9 => h9) rfl dX8_resting_55 ?_
          refine lv_iload_n hx hb dX8_resting_58 rfl (lv_at hl 3 rfl) ?_
          refine va_iald hx hb hK hP 2 0 rfl rfl (zf_in (by omega) (by omega)) dX8_resting_59 ?_
          refine lv_topi (fun x_150 ex_150 => ?_)
          have bx_150 : 0 ≤ x_150.toInt ∧ x_150.toInt ≤ 9 := by rw [ex_150]; exact hp_gpa _
          refine lv_isub hx hb dX8_resting_60 ?_
          refine lv_topi (fun x_151 ex_151 => ?_)
          skip
          refine zw_V (As := [.int p_, .int x_151]) (rest := [.int r_146]) (wr := []) ⟨hx, hb, hml, hown, hts⟩ (c_M_pulling l D cI cJ cZ cP cS po m0 mrf mki mpa mta mla msl mco mhe mso msi msh mce mca mwo mnu mte mwa mke mma mth mtr (npu) (nte) (nat_) (nde) (nto) (nse) (nhu) (nga) (nsd) (nfa) (nba) (npl) (nen) (nnu) (nwr) (q_148) (nik) gki gpa q_149 (p_) (x_151) hy0 hy1 hy2 hy3 hy4 hy5 hy6 hy7 hy8 hy9 hbq_148.1 hbq_148.2 hy12 hy13 hy14 hy15 hbq_148.1 (by omega) hp_gki hp_gpa H.size) (cwV 2 hts gX8_resting_X8_pulling rfl rfl rfl ⟨rfl, dh_X8_pulling⟩ ⟨Nat.le_of_ble_eq_true rfl, Nat.le_of_ble_eq_true rfl⟩) hK hN (hZ.kept hS) hP hD hS hA [0, 1, 2, 3] [] rfl rfl (by decide) (by decide) (by decide) (va_recv (q := (RX8, TX8, 38)) hK hP (ci := 8) (q0 := 0) rfl rfl) rfl hl.1 rfl (Nat.le_of_ble_eq_true rfl) dX8_resting_61 ⟨Nat.le_of_ble_eq_true rfl, Nat.le_of_ble_eq_true rfl⟩ (fun r_152 u_153 H locs hr_152 hP hD hS => ?_)
          obtain ⟨q_154, q_155⟩ := u_153
          try dsimp only at hr_152
          obtain ⟨hbq_154, hsr_152_0, hr_152⟩ := hr_152
          have h9R := zRe (ws' := [(zMO m0 npu nte nat_ nde nto nse nhu nga nsd nfa mrf mki mpa mta mla msl mco mhe mso msi msh mce mca mwo mnu mte nba npl nen nnu nwr mwa mke mma mth mtr q_154 nik), (mki, .inl (cI, 8, .inl gki)), (mpa, .inl (cI, 8, .inl gpa)), (mtr, .inl (cI, 20, .inl q_155))]) hP hD rfl
          clear hP hD
          obtain ⟨hP, hD⟩ := h9R
          refine lv_ixor hx hb dX8_resting_64 ?_
          refine lv_topi (fun x_156 ex_156 => ?_)
          refine lv_istore (lv' := [(4, .int x_156), (3, .int 6), (0, .ref m0), (1, .int p_), (2, .int x)]) hx hb dX8_resting_65 hl (by decide) rfl (fun ls hl => ?_)
          refine lv_iload_n hx hb dX8_resting_67 rfl (lv_at hl 1 rfl) ?_
          refine lv_iconst (v := 4) hx hb dX8_resting_68 (by decide) ?_
          refine lv_icmp_eq (tgt := 78) hx hb dX8_resting_69 (by decide) (fun c_157 => ?_) (fun c_157 => ?_)
          · exact absurd c_157 (by decide)
          · refine lv_iload_n hx hb dX8_resting_72 rfl (lv_at hl 1 rfl) ?_
            refine lv_bipush (v := 6) hx hb dX8_resting_73 (by decide) ?_
            refine lv_icmp_ne (tgt := 84) hx hb dX8_resting_75 (by decide) (fun c_158 => ?_) (fun c_158 => ?_)
            · exact absurd c_158 (by decide)
            · refine lv_iload hx hb dX8_resting_78 (lv_at hl 0 rfl) ?_
              refine lv_ineg hx hb dX8_resting_80 ?_
              refine lv_topi (fun x_159 ex_159 => ?_)
              refine lv_goto (tgt := 98) hx hb dX8_resting_81 (by decide) ?_
              exact W.iret (v := x_159) hx hb hr (fun t ht hW => ⟨⟨x_159, (q_154, q_155), rfl, ⟨(show 0 ≤ q_154.toInt ∧ q_154.toInt ≤ 2000 from hbq_154), (show q_154.toInt ≤ nra.toInt + 16 from by omega), trivial⟩, zRet ht hP hD [0, 1, 2, 3] (by decide) rfl⟩, hS.F ht⟩) hS.2.2 dX8_resting_98
        · exact absurd c_141 (by decide)
theorem hi_X8_act_8 : ∀ w ∈ u_ws RX8 TX8 38, w ∈ wsX8_act := fun w h => (gl_X8_act_X80 w h).1
set_option maxHeartbeats 4000000 in
set_option maxRecDepth 100000 in
theorem c_M_act (l : Launch) (D : va_G) (cI cJ cZ cP cS : ClassId) (po : zPool) (m0 mrf mki mpa mta mla msl mco mhe mso msi msh mce mca mwo mnu mte mwa mke mma mth mtr : Nat) (npu nte nat_ nde nto nse nhu nga nsd nfa nba npl nen nnu nwr nra nik : Int32) (gki gpa gtr : Nat → Int32) (p_ mo x : Int32) (hy0 : 0 ≤ npu.toInt) (hy1 : npu.toInt ≤ 8) (hy2 : 4 ≤ nte.toInt) (hy3 : nte.toInt ≤ 40) (hy4 : 0 ≤ nat_.toInt) (hy5 : nat_.toInt ≤ 40) (hy6 : 0 ≤ nde.toInt) (hy7 : nde.toInt ≤ 24) (hy8 : 0 ≤ nhu.toInt) (hy9 : nhu.toInt ≤ 9) (hy10 : 0 ≤ nra.toInt) (hy11 : nra.toInt ≤ 2000) (hy12 : 0 ≤ nik.toInt) (hy13 : nik.toInt ≤ 1) (hp_gki : zRg gki (0) 6) (hp_gpa : zRg gpa (0) 9) (hpz : Nat) : Met l yX8_act wsX8_act ({ frames := 4, cells := 0, slots := 0, locals := 95 }) (va_Pc [.ref m0, .int p_, .int mo, .int x] (zW D (zKT cI cJ cZ cP cS) po [(zMO m0 npu nte nat_ nde nto nse nhu nga nsd nfa mrf mki mpa mta mla msl mco mhe mso msi msh mce mca mwo mnu mte nba npl nen nnu nwr mwa mke mma mth mtr nra nik), (mki, .inl (cI, 8, .inl gki)), (mpa, .inl (cI, 8, .inl gpa)), (mtr, .inl (cI, 20, .inl gtr))] hpz)) (va_Qi (fun (r : Int32) (u : (Int32) × (Nat → Int32)) => (0 ≤ u.1.toInt ∧ u.1.toInt ≤ 2000) ∧ (True)) (zB D [(zMO m0 npu nte nat_ nde nto nse nhu nga nsd nfa mrf mki mpa mta mla msl mco mhe mso msi msh mce mca mwo mnu mte nba npl nen nnu nwr mwa mke mma mth mtr nra nik), (mki, .inl (cI, 8, .inl gki)), (mpa, .inl (cI, 8, .inl gpa)), (mtr, .inl (cI, 20, .inl gtr))] hpz (fun (u : (Int32) × (Nat → Int32)) => [(zMO m0 npu nte nat_ nde nto nse nhu nga nsd nfa mrf mki mpa mta mla msl mco mhe mso msi msh mce mca mwo mnu mte nba npl nen nnu nwr mwa mke mma mth mtr u.1 nik), (mki, .inl (cI, 8, .inl gki)), (mpa, .inl (cI, 8, .inl gpa)), (mtr, .inl (cI, 20, .inl u.2))])) (va_A [(zMO m0 npu nte nat_ nde nto nse nhu nga nsd nfa mrf mki mpa mta mla msl mco mhe mso msi msh mce mca mwo mnu mte nba npl nen nnu nwr mwa mke mma mth mtr nra nik), (mki, .inl (cI, 8, .inl gki)), (mpa, .inl (cI, 8, .inl gpa)), (mtr, .inl (cI, 20, .inl gtr))] hpz)) 0 0 (va_A [(zMO m0 npu nte nat_ nde nto nse nhu nga nsd nfa mrf mki mpa mta mla msl mco mhe mso msi msh mce mca mwo mnu mte nba npl nen nnu nwr mwa mke mma mth mtr nra nik), (mki, .inl (cI, 8, .inl gki)), (mpa, .inl (cI, 8, .inl gpa)), (mtr, .inl (cI, 20, .inl gtr))] hpz) := by
  refine Met.ofW (cc := cX8_act) (maxL := 4) (ret := (some .int)) (by decide) rfl ?_
  intro p e s m args below meth c s₁ B hml hv
  obtain ⟨rfl, hsz, hP, hK, hD0, hN, hZ⟩ := hv
  have hx := B.exec
  have hb := B.bytes
  have hr := B.returns
  have hts := atoms_spec (ws := wsX8_act) B.pre
  have hown : s.vm.findClass RX8 = some m.cls := findClass_of_methodNamed B.named
  have hlocks := B.notSynchronized
  subst hsz
  have hD := hD0.self (sz := s.heap.size)
  have hA := zA_of hD
  have hl := lv_entry ([.ref m0, .int p_, .int mo, .int x]) (n := 4) (Nat.le_of_ble_eq_true rfl)
  rw [lg_entry_eq]
  generalize (lg_sl ([.ref m0, .int p_, .int mo, .int x]) ++ List.replicate (4 - (lg_sl ([.ref m0, .int p_, .int mo, .int x])).length) Slot.unset).toArray = ls at hl ⊢
  replace hl : lv_has ls 4 [(0, .ref m0), (1, .int p_), (2, .int mo), (3, .int x)] := hl
  refine zw_begin hP hD (fun H locs hP1 hS => ?_)
  clear hP
  have hP := hP1
  clear hP1
  refine lv_aload_n hx hb dX8_act_0 rfl (lv_at hl 0 rfl) ?_
  refine lv_iconst (v := 0) hx hb dX8_act_1 (by decide) ?_
  refine va_put (D := D) (ci := 8) (v := .int 0) (ty := .int) (C := RX8) (T := TX8) (N := 38) hx hb hts hi_X8_act_8 tyX8 tyX8_ok nmX8 hown hK hP hD hS 0 rfl rfl 36 (by decide) (hts (.fieldLink RX8 285 "TheLiningsInItModel" "ran" "I") (List.mem_of_getElem? (i := 1) rfl)) (fun _ h9 => h9) rfl (tyX8_ok 36 (Nat.le_of_ble_eq_true rfl)) rfl rfl (Nat.le_of_ble_eq_true rfl) dX8_act_2 (fun H locs hP hD hS => ?_)
  have h9R := zRe (ws' := [(zMO m0 npu nte nat_ nde nto nse nhu nga nsd nfa mrf mki mpa mta mla msl mco mhe mso msi msh mce mca mwo mnu mte nba npl nen nnu nwr mwa mke mma mth mtr 0 nik), (mki, .inl (cI, 8, .inl gki)), (mpa, .inl (cI, 8, .inl gpa)), (mtr, .inl (cI, 20, .inl gtr))]) hP hD rfl
  clear hP hD
  obtain ⟨hP, hD⟩ := h9R
  refine lv_aload_n hx hb dX8_act_5 rfl (lv_at hl 0 rfl) ?_
  refine lv_iload_n hx hb dX8_act_6 rfl (lv_at hl 1 rfl) ?_
  have kc0 : (0 : Int32).toInt = 0 := by decide
  refine zc_V (As := [.int p_]) (rest := []) ⟨hx, hb, hml, hown, hts⟩ (c_M_isPull l D cI cJ cZ cP cS po m0 mrf mki mpa mta mla msl mco mhe mso msi msh mce mca mwo mnu mte mwa mke mma mth mtr (npu) (nte) (nat_) (nde) (nto) (nse) (nhu) (nga) (nsd) (nfa) (nba) (npl) (nen) (nnu) (nwr) (0) (nik) (p_) hy0 hy1 hy2 hy3 hy4 hy5 hy6 hy7 hy8 hy9 (by omega) (by omega) hy12 hy13) (cwV 1 hts gX8_act_X8_isPull rfl rfl rfl ⟨rfl, dh_X8_isPull⟩ ⟨Nat.le_of_ble_eq_true rfl, Nat.le_of_ble_eq_true rfl⟩) hK hN (hZ.kept hS) hP (hP.sub [0] rfl) (va_recv (q := (RX8, TX8, 38)) hK hP (ci := 8) (q0 := 0) rfl rfl) rfl hl.1 rfl (Nat.le_of_ble_eq_true rfl) dX8_act_7 ⟨Nat.le_of_ble_eq_true rfl, Nat.le_of_ble_eq_true rfl⟩ (fun r_1 hr_1 => ?_)
  rcases hr_1 with ⟨rfl, g_2⟩ | ⟨rfl, g_3, g_4⟩ | ⟨rfl, g_5, g_6⟩
  · refine lv_if_eq (tgt := 22) hx hb dX8_act_10 (by decide) (fun c_7 => ?_) (fun c_7 => ?_)
    · refine lv_iconst (v := 0) hx hb dX8_act_22 (by decide) ?_
      exact W.iret (v := 0) hx hb hr (fun t ht hW => ⟨⟨0, (0, gtr), rfl, ⟨(show 0 ≤ (0 : Int32).toInt ∧ (0 : Int32).toInt ≤ 2000 from by decide), trivial⟩, zRet ht hP hD [0, 1, 2, 3] (by decide) rfl⟩, hS.F ht⟩) hS.2.2 dX8_act_23
    · exact absurd c_7 (by decide)
  · refine lv_if_eq (tgt := 22) hx hb dX8_act_10 (by decide) (fun c_8 => ?_) (fun c_8 => ?_)
    · refine lv_iconst (v := 0) hx hb dX8_act_22 (by decide) ?_
      exact W.iret (v := 0) hx hb hr (fun t ht hW => ⟨⟨0, (0, gtr), rfl, ⟨(show 0 ≤ (0 : Int32).toInt ∧ (0 : Int32).toInt ≤ 2000 from by decide), trivial⟩, zRet ht hP hD [0, 1, 2, 3] (by decide) rfl⟩, hS.F ht⟩) hS.2.2 dX8_act_23
    · exact absurd c_8 (by decide)
  · refine lv_if_eq (tgt := 22) hx hb dX8_act_10 (by decide) (fun c_9 => ?_) (fun c_9 => ?_)
    · exact absurd c_9 (by decide)
    · refine lv_iload_n hx hb dX8_act_13 rfl (lv_at hl 2 rfl) ?_
      refine lv_if_lt (tgt := 22) hx hb dX8_act_14 (by decide) (fun c_10 => ?_) (fun c_10 => ?_)
      · have fc_10 : mo.toInt < 0 := zf_lt c_10 rfl (by decide)
        refine lv_iconst (v := 0) hx hb dX8_act_22 (by decide) ?_
        exact W.iret (v := 0) hx hb hr (fun t ht hW => ⟨⟨0, (0, gtr), rfl, ⟨(show 0 ≤ (0 : Int32).toInt ∧ (0 : Int32).toInt ≤ 2000 from by decide), trivial⟩, zRet ht hP hD [0, 1, 2, 3] (by decide) rfl⟩, hS.F ht⟩) hS.2.2 dX8_act_23
      · have fc_10 : 0 ≤ mo.toInt := zf_nlt c_10 rfl (by decide)
        refine lv_iload_n hx hb dX8_act_17 rfl (lv_at hl 2 rfl) ?_
        refine lv_iconst (v := 2) hx hb dX8_act_18 (by decide) ?_
        refine lv_icmp_le (tgt := 24) hx hb dX8_act_19 (by decide) (fun c_11 => ?_) (fun c_11 => ?_)
        · have fc_11 : mo.toInt ≤ 2 := zf_le c_11 rfl (by decide)
          refine lv_iload_n hx hb dX8_act_24 rfl (lv_at hl 2 rfl) ?_
          refine lv_if_ne (tgt := 37) hx hb dX8_act_25 (by decide) (fun c_12 => ?_) (fun c_12 => ?_)
          · have fc_12 : mo.toInt ≠ 0 := zf_ne c_12 rfl (by decide)
            refine lv_iload_n hx hb dX8_act_37 rfl (lv_at hl 2 rfl) ?_
            refine lv_iconst (v := 1) hx hb dX8_act_38 (by decide) ?_
            refine lv_icmp_ne (tgt := 51) hx hb dX8_act_39 (by decide) (fun c_13 => ?_) (fun c_13 => ?_)
            · have fc_13 : mo.toInt ≠ 1 := zf_ne c_13 rfl (by decide)
              refine lv_aload_n hx hb dX8_act_51 rfl (lv_at hl 0 rfl) ?_
              refine lv_iload_n hx hb dX8_act_52 rfl (lv_at hl 1 rfl) ?_
              refine lv_iload_n hx hb dX8_act_53 rfl (lv_at hl 3 rfl) ?_
              skip
              refine zw_V (As := [.int p_, .int x]) (rest := []) (wr := []) ⟨hx, hb, hml, hown, hts⟩ (c_M_resting l D cI cJ cZ cP cS po m0 mrf mki mpa mta mla msl mco mhe mso msi msh mce mca mwo mnu mte mwa mke mma mth mtr (npu) (nte) (nat_) (nde) (nto) (nse) (nhu) (nga) (nsd) (nfa) (nba) (npl) (nen) (nnu) (nwr) (0) (nik) gki gpa gtr (p_) (x) hy0 hy1 hy2 hy3 hy4 hy5 hy6 hy7 hy8 hy9 (by omega) (by omega) hy12 hy13 (by omega) (by omega) (by omega) (by omega) hp_gki hp_gpa H.size) (cwV 2 hts gX8_act_X8_resting rfl rfl rfl ⟨rfl, dh_X8_resting⟩ ⟨Nat.le_of_ble_eq_true rfl, Nat.le_of_ble_eq_true rfl⟩) hK hN (hZ.kept hS) hP hD hS hA [0, 1, 2, 3] [] rfl rfl (by decide) (by decide) (by decide) (va_recv (q := (RX8, TX8, 38)) hK hP (ci := 8) (q0 := 0) rfl rfl) rfl hl.1 rfl (Nat.le_of_ble_eq_true rfl) dX8_act_54 ⟨Nat.le_of_ble_eq_true rfl, Nat.le_of_ble_eq_true rfl⟩ (fun r_14 u_15 H locs hr_14 hP hD hS => ?_)
              obtain ⟨q_16, q_17⟩ := u_15
              try dsimp only at hr_14
              obtain ⟨hbq_16, hsr_14_0, hr_14⟩ := hr_14
              have h9R := zRe (ws' := [(zMO m0 npu nte nat_ nde nto nse nhu nga nsd nfa mrf mki mpa mta mla msl mco mhe mso msi msh mce mca mwo mnu mte nba npl nen nnu nwr mwa mke mma mth mtr q_16 nik), (mki, .inl (cI, 8, .inl gki)), (mpa, .inl (cI, 8, .inl gpa)), (mtr, .inl (cI, 20, .inl q_17))]) hP hD rfl
              clear hP hD
              obtain ⟨hP, hD⟩ := h9R
              exact W.iret (v := r_14) hx hb hr (fun t ht hW => ⟨⟨r_14, (q_16, q_17), rfl, ⟨(show 0 ≤ q_16.toInt ∧ q_16.toInt ≤ 2000 from hbq_16), trivial⟩, zRet ht hP hD [0, 1, 2, 3] (by decide) rfl⟩, hS.F ht⟩) hS.2.2 dX8_act_57
            · have fc_13 : mo.toInt = 1 := zf_eq c_13 rfl (by decide)
              refine lv_aload_n hx hb dX8_act_42 rfl (lv_at hl 0 rfl) ?_
              refine lv_iload_n hx hb dX8_act_43 rfl (lv_at hl 1 rfl) ?_
              refine lv_iload_n hx hb dX8_act_44 rfl (lv_at hl 3 rfl) ?_
              skip
              refine zw_V (As := [.int p_, .int x]) (rest := []) (wr := []) ⟨hx, hb, hml, hown, hts⟩ (c_M_freeing l D cI cJ cZ cP cS po m0 mrf mki mpa mta mla msl mco mhe mso msi msh mce mca mwo mnu mte mwa mke mma mth mtr (npu) (nte) (nat_) (nde) (nto) (nse) (nhu) (nga) (nsd) (nfa) (nba) (npl) (nen) (nnu) (nwr) (0) (nik) gki gpa gtr (p_) (x) hy0 hy1 hy2 hy3 hy4 hy5 hy6 hy7 hy8 hy9 (by omega) (by omega) hy12 hy13 (by omega) (by omega) (by omega) (by omega) hp_gki hp_gpa H.size) (cwV 2 hts gX8_act_X8_freeing rfl rfl rfl ⟨rfl, dh_X8_freeing⟩ ⟨Nat.le_of_ble_eq_true rfl, Nat.le_of_ble_eq_true rfl⟩) hK hN (hZ.kept hS) hP hD hS hA [0, 1, 2, 3] [] rfl rfl (by decide) (by decide) (by decide) (va_recv (q := (RX8, TX8, 38)) hK hP (ci := 8) (q0 := 0) rfl rfl) rfl hl.1 rfl (Nat.le_of_ble_eq_true rfl) dX8_act_45 ⟨Nat.le_of_ble_eq_true rfl, Nat.le_of_ble_eq_true rfl⟩ (fun r_18 u_19 H locs hr_18 hP hD hS => ?_)
              obtain ⟨q_20, q_21⟩ := u_19
              try dsimp only at hr_18
              obtain ⟨hbq_20, hsr_18_0, hr_18⟩ := hr_18
              have h9R := zRe (ws' := [(zMO m0 npu nte nat_ nde nto nse nhu nga nsd nfa mrf mki mpa mta mla msl mco mhe mso msi msh mce mca mwo mnu mte nba npl nen nnu nwr mwa mke mma mth mtr q_20 nik), (mki, .inl (cI, 8, .inl gki)), (mpa, .inl (cI, 8, .inl gpa)), (mtr, .inl (cI, 20, .inl q_21))]) hP hD rfl
              clear hP hD
              obtain ⟨hP, hD⟩ := h9R
              refine lv_goto (tgt := 57) hx hb dX8_act_48 (by decide) ?_
              exact W.iret (v := r_18) hx hb hr (fun t ht hW => ⟨⟨r_18, (q_20, q_21), rfl, ⟨(show 0 ≤ q_20.toInt ∧ q_20.toInt ≤ 2000 from hbq_20), trivial⟩, zRet ht hP hD [0, 1, 2, 3] (by decide) rfl⟩, hS.F ht⟩) hS.2.2 dX8_act_57
          · have fc_12 : mo.toInt = 0 := zf_eq c_12 rfl (by decide)
            refine lv_aload_n hx hb dX8_act_28 rfl (lv_at hl 0 rfl) ?_
            refine lv_iload_n hx hb dX8_act_29 rfl (lv_at hl 1 rfl) ?_
            refine lv_iload_n hx hb dX8_act_30 rfl (lv_at hl 3 rfl) ?_
            skip
            refine zw_V (As := [.int p_, .int x]) (rest := []) (wr := []) ⟨hx, hb, hml, hown, hts⟩ (c_M_pulling l D cI cJ cZ cP cS po m0 mrf mki mpa mta mla msl mco mhe mso msi msh mce mca mwo mnu mte mwa mke mma mth mtr (npu) (nte) (nat_) (nde) (nto) (nse) (nhu) (nga) (nsd) (nfa) (nba) (npl) (nen) (nnu) (nwr) (0) (nik) gki gpa gtr (p_) (x) hy0 hy1 hy2 hy3 hy4 hy5 hy6 hy7 hy8 hy9 (by omega) (by omega) hy12 hy13 (by omega) (by omega) (by omega) (by omega) hp_gki hp_gpa H.size) (cwV 2 hts gX8_act_X8_pulling rfl rfl rfl ⟨rfl, dh_X8_pulling⟩ ⟨Nat.le_of_ble_eq_true rfl, Nat.le_of_ble_eq_true rfl⟩) hK hN (hZ.kept hS) hP hD hS hA [0, 1, 2, 3] [] rfl rfl (by decide) (by decide) (by decide) (va_recv (q := (RX8, TX8, 38)) hK hP (ci := 8) (q0 := 0) rfl rfl) rfl hl.1 rfl (Nat.le_of_ble_eq_true rfl) dX8_act_31 ⟨Nat.le_of_ble_eq_true rfl, Nat.le_of_ble_eq_true rfl⟩ (fun r_22 u_23 H locs hr_22 hP hD hS => ?_)
            obtain ⟨q_24, q_25⟩ := u_23
            try dsimp only at hr_22
            obtain ⟨hbq_24, hsr_22_0, hr_22⟩ := hr_22
            have h9R := zRe (ws' := [(zMO m0 npu nte nat_ nde nto nse nhu nga nsd nfa mrf mki mpa mta mla msl mco mhe mso msi msh mce mca mwo mnu mte nba npl nen nnu nwr mwa mke mma mth mtr q_24 nik), (mki, .inl (cI, 8, .inl gki)), (mpa, .inl (cI, 8, .inl gpa)), (mtr, .inl (cI, 20, .inl q_25))]) hP hD rfl
            clear hP hD
            obtain ⟨hP, hD⟩ := h9R
            refine lv_goto (tgt := 57) hx hb dX8_act_34 (by decide) ?_
            exact W.iret (v := r_22) hx hb hr (fun t ht hW => ⟨⟨r_22, (q_24, q_25), rfl, ⟨(show 0 ≤ q_24.toInt ∧ q_24.toInt ≤ 2000 from hbq_24), trivial⟩, zRet ht hP hD [0, 1, 2, 3] (by decide) rfl⟩, hS.F ht⟩) hS.2.2 dX8_act_57
        · have fc_11 : 2 < mo.toInt := zf_nle c_11 rfl (by decide)
          refine lv_iconst (v := 0) hx hb dX8_act_22 (by decide) ?_
          exact W.iret (v := 0) hx hb hr (fun t ht hW => ⟨⟨0, (0, gtr), rfl, ⟨(show 0 ≤ (0 : Int32).toInt ∧ (0 : Int32).toInt ≤ 2000 from by decide), trivial⟩, zRet ht hP hD [0, 1, 2, 3] (by decide) rfl⟩, hS.F ht⟩) hS.2.2 dX8_act_23
theorem gl_X8_trace_X80 : GoodIn wsX8_trace wsX80 := (dg_t (dg_t (dg_t gw_wsX80)))
theorem hi_X8_trace_8 : ∀ w ∈ u_ws RX8 TX8 38, w ∈ wsX8_trace := fun w h => (gl_X8_trace_X80 w h).1
set_option maxHeartbeats 4000000 in
set_option maxRecDepth 100000 in
theorem c_M_trace (l : Launch) (D : va_G) (cI cJ cZ cP cS : ClassId) (po : zPool) (m0 mrf mki mpa mta mla msl mco mhe mso msi msh mce mca mwo mnu mte mwa mke mma mth mtr : Nat) (npu nte nat_ nde nto nse nhu nga nsd nfa nba npl nen nnu nwr nra nik : Int32) (gtr : Nat → Int32) (i : Int32) (hy0 : 0 ≤ npu.toInt) (hy1 : npu.toInt ≤ 8) (hy2 : 4 ≤ nte.toInt) (hy3 : nte.toInt ≤ 40) (hy4 : 0 ≤ nat_.toInt) (hy5 : nat_.toInt ≤ 40) (hy6 : 0 ≤ nde.toInt) (hy7 : nde.toInt ≤ 24) (hy8 : 0 ≤ nhu.toInt) (hy9 : nhu.toInt ≤ 9) (hy10 : 0 ≤ nra.toInt) (hy11 : nra.toInt ≤ 2000) (hy12 : 0 ≤ nik.toInt) (hy13 : nik.toInt ≤ 1) : Met l yX8_trace wsX8_trace ({ frames := 0, cells := 0, slots := 0, locals := 0 }) (va_Pc [.ref m0, .int i] (zR D (zKT cI cJ cZ cP cS) po [(zMO m0 npu nte nat_ nde nto nse nhu nga nsd nfa mrf mki mpa mta mla msl mco mhe mso msi msh mce mca mwo mnu mte nba npl nen nnu nwr mwa mke mma mth mtr nra nik), (mtr, .inl (cI, 20, .inl gtr))])) (vp_Si (fun r => True)) 0 0 (fun _ => False) := by
  refine Met.ofW (cc := cX8_trace) (maxL := 2) (ret := (some .int)) (by decide) rfl ?_
  intro p e s m args below meth c s₁ B hml hv
  obtain ⟨rfl, hP, hK, hN, hZ⟩ := hv
  have hx := B.exec
  have hb := B.bytes
  have hr := B.returns
  have hts := atoms_spec (ws := wsX8_trace) B.pre
  have hown : s.vm.findClass RX8 = some m.cls := findClass_of_methodNamed B.named
  have hlocks := B.notSynchronized
  have hl := lv_entry ([.ref m0, .int i]) (n := 2) (Nat.le_of_ble_eq_true rfl)
  rw [lg_entry_eq]
  generalize (lg_sl ([.ref m0, .int i]) ++ List.replicate (2 - (lg_sl ([.ref m0, .int i])).length) Slot.unset).toArray = ls at hl ⊢
  replace hl : lv_has ls 2 [(0, .ref m0), (1, .int i)] := hl
  refine lv_iload_n hx hb dX8_trace_0 rfl (lv_at hl 1 rfl) ?_
  refine lv_if_lt (tgt := 27) hx hb dX8_trace_1 (by decide) (fun c_1 => ?_) (fun c_1 => ?_)
  · have fc_1 : i.toInt < 0 := zf_lt c_1 rfl (by decide)
    refine lv_iconst (v := (-1)) hx hb dX8_trace_27 (by decide) ?_
    exact W.iret (v := (-1)) hx hb hr (fun t ht hW => ⟨(-1), rfl, trivial, ht⟩) (fun q hq => by cases hq) dX8_trace_28
  · have fc_1 : 0 ≤ i.toInt := zf_nlt c_1 rfl (by decide)
    refine lv_iload_n hx hb dX8_trace_4 rfl (lv_at hl 1 rfl) ?_
    refine lv_bipush (v := 20) hx hb dX8_trace_5 (by decide) ?_
    refine lv_icmp_ge (tgt := 27) hx hb dX8_trace_7 (by decide) (fun c_2 => ?_) (fun c_2 => ?_)
    · have fc_2 : 20 ≤ i.toInt := zf_le c_2 (by decide) rfl
      refine lv_iconst (v := (-1)) hx hb dX8_trace_27 (by decide) ?_
      exact W.iret (v := (-1)) hx hb hr (fun t ht hW => ⟨(-1), rfl, trivial, ht⟩) (fun q hq => by cases hq) dX8_trace_28
    · have fc_2 : i.toInt < 20 := zf_nle c_2 (by decide) rfl
      refine lv_iload_n hx hb dX8_trace_10 rfl (lv_at hl 1 rfl) ?_
      refine lv_aload_n hx hb dX8_trace_11 rfl (lv_at hl 0 rfl) ?_
      refine va_get (D := D) (ci := 8) (v := .int nra) (C := RX8) (T := TX8) (N := 38) hx hb hts hi_X8_trace_8 hown hK hP 0 rfl rfl 36 (by decide) (hts (.fieldLink RX8 285 "TheLiningsInItModel" "ran" "I") (List.mem_of_getElem? (i := 1) rfl)) (fun _ h9 => h9) rfl dX8_trace_12 ?_
      refine lv_icmp_ge (tgt := 27) hx hb dX8_trace_15 (by decide) (fun c_3 => ?_) (fun c_3 => ?_)
      · have fc_3 : nra.toInt ≤ i.toInt := zf_le c_3 rfl rfl
        refine lv_iconst (v := (-1)) hx hb dX8_trace_27 (by decide) ?_
        exact W.iret (v := (-1)) hx hb hr (fun t ht hW => ⟨(-1), rfl, trivial, ht⟩) (fun q hq => by cases hq) dX8_trace_28
      · have fc_3 : i.toInt < nra.toInt := zf_nle c_3 rfl rfl
        refine lv_aload_n hx hb dX8_trace_18 rfl (lv_at hl 0 rfl) ?_
        refine va_get (D := D) (ci := 8) (v := .ref mtr) (C := RX8) (T := TX8) (N := 38) hx hb hts hi_X8_trace_8 hown hK hP 0 rfl rfl 35 (by decide) (hts (.fieldLink RX8 87 "TheLiningsInItModel" "trace" "[I") (List.mem_of_getElem? (i := 2) rfl)) (fun _ h9 => h9) rfl dX8_trace_19 ?_
        refine lv_iload_n hx hb dX8_trace_22 rfl (lv_at hl 1 rfl) ?_
        refine va_iald hx hb hK hP 1 0 rfl rfl (zf_in (by omega) (by omega)) dX8_trace_23 ?_
        refine lv_topi (fun x_4 ex_4 => ?_)
        refine lv_goto (tgt := 28) hx hb dX8_trace_24 (by decide) ?_
        exact W.iret (v := x_4) hx hb hr (fun t ht hW => ⟨x_4, rfl, trivial, ht⟩) (fun q hq => by cases hq) dX8_trace_28
theorem gl_X8_status_X80 : GoodIn wsX8_status wsX80 := (dg_t (dg_t (dg_t (dg_t (dg_t (dg_t (dg_t (dg_t (dg_t (dg_t (dg_t (dg_t gw_wsX80))))))))))))
theorem hi_X8_status_8 : ∀ w ∈ u_ws RX8 TX8 38, w ∈ wsX8_status := fun w h => (gl_X8_status_X80 w h).1
set_option maxHeartbeats 4000000 in
set_option maxRecDepth 100000 in
theorem c_M_status (l : Launch) (D : va_G) (cI cJ cZ cP cS : ClassId) (po : zPool) (m0 mrf mki mpa mta mla msl mco mhe mso msi msh mce mca mwo mnu mte mwa mke mma mth mtr : Nat) (npu nte nat_ nde nto nse nhu nga nsd nfa nba npl nen nnu nwr nra nik : Int32) (grf : Nat → Int32) (w : Int32) (hy0 : 0 ≤ npu.toInt) (hy1 : npu.toInt ≤ 8) (hy2 : 4 ≤ nte.toInt) (hy3 : nte.toInt ≤ 40) (hy4 : 0 ≤ nat_.toInt) (hy5 : nat_.toInt ≤ 40) (hy6 : 0 ≤ nde.toInt) (hy7 : nde.toInt ≤ 24) (hy8 : 0 ≤ nhu.toInt) (hy9 : nhu.toInt ≤ 9) (hy10 : 0 ≤ nra.toInt) (hy11 : nra.toInt ≤ 2000) (hy12 : 0 ≤ nik.toInt) (hy13 : nik.toInt ≤ 1) : Met l yX8_status wsX8_status ({ frames := 0, cells := 0, slots := 0, locals := 0 }) (va_Pc [.ref m0, .int w] (zR D (zKT cI cJ cZ cP cS) po [(zMO m0 npu nte nat_ nde nto nse nhu nga nsd nfa mrf mki mpa mta mla msl mco mhe mso msi msh mce mca mwo mnu mte nba npl nen nnu nwr mwa mke mma mth mtr nra nik), (mrf, .inl (cI, 8, .inl grf))])) (vp_Si (fun r => True)) 0 0 (fun _ => False) := by
  refine Met.ofW (cc := cX8_status) (maxL := 2) (ret := (some .int)) (by decide) rfl ?_
  intro p e s m args below meth c s₁ B hml hv
  obtain ⟨rfl, hP, hK, hN, hZ⟩ := hv
  have hx := B.exec
  have hb := B.bytes
  have hr := B.returns
  have hts := atoms_spec (ws := wsX8_status) B.pre
  have hown : s.vm.findClass RX8 = some m.cls := findClass_of_methodNamed B.named
  have hlocks := B.notSynchronized
  have hl := lv_entry ([.ref m0, .int w]) (n := 2) (Nat.le_of_ble_eq_true rfl)
  rw [lg_entry_eq]
  generalize (lg_sl ([.ref m0, .int w]) ++ List.replicate (2 - (lg_sl ([.ref m0, .int w])).length) Slot.unset).toArray = ls at hl ⊢
  replace hl : lv_has ls 2 [(0, .ref m0), (1, .int w)] := hl
  refine lv_iload_n hx hb dX8_status_0 rfl (lv_at hl 1 rfl) ?_
  refine lv_bipush (v := 11) hx hb dX8_status_1 (by decide) ?_
  refine lv_icmp_lt (tgt := 22) hx hb dX8_status_3 (by decide) (fun c_1 => ?_) (fun c_1 => ?_)
  · have fc_1 : w.toInt < 11 := zf_lt c_1 rfl (by decide)
    refine lv_iload_n hx hb dX8_status_22 rfl (lv_at hl 1 rfl) ?_
    by_cases hsp : w.toInt < 0 ∨ 9 < w.toInt
    · refine lv_tableOut (tgt := 126) hx hb dX8_status_23 hsp (by decide) ?_
      refine lv_iconst (v := (-1)) hx hb dX8_status_126 (by decide) ?_
      exact W.iret (v := (-1)) hx hb hr (fun t ht hW => ⟨(-1), rfl, trivial, ht⟩) (fun q hq => by cases hq) dX8_status_127
    · have hsp : w = 0 ∨ w = 1 ∨ w = 2 ∨ w = 3 ∨ w = 4 ∨ w = 5 ∨ w = 6 ∨ w = 7 ∨ w = 8 ∨ w = 9 := by
        rcases (show w.toInt = 0 ∨ w.toInt = 1 ∨ w.toInt = 2 ∨ w.toInt = 3 ∨ w.toInt = 4 ∨ w.toInt = 5 ∨ w.toInt = 6 ∨ w.toInt = 7 ∨ w.toInt = 8 ∨ w.toInt = 9 by omega) with h9 | h9 | h9 | h9 | h9 | h9 | h9 | h9 | h9 | h9
        · refine Or.inl ?_; exact zf_val h9 (by decide)
        · refine Or.inr (Or.inl ?_); exact zf_val h9 (by decide)
        · refine Or.inr (Or.inr (Or.inl ?_)); exact zf_val h9 (by decide)
        · refine Or.inr (Or.inr (Or.inr (Or.inl ?_))); exact zf_val h9 (by decide)
        · refine Or.inr (Or.inr (Or.inr (Or.inr (Or.inl ?_)))); exact zf_val h9 (by decide)
        · refine Or.inr (Or.inr (Or.inr (Or.inr (Or.inr (Or.inl ?_))))); exact zf_val h9 (by decide)
        · refine Or.inr (Or.inr (Or.inr (Or.inr (Or.inr (Or.inr (Or.inl ?_)))))); exact zf_val h9 (by decide)
        · refine Or.inr (Or.inr (Or.inr (Or.inr (Or.inr (Or.inr (Or.inr (Or.inl ?_))))))); exact zf_val h9 (by decide)
        · refine Or.inr (Or.inr (Or.inr (Or.inr (Or.inr (Or.inr (Or.inr (Or.inr (Or.inl ?_)))))))); exact zf_val h9 (by decide)
        · refine Or.inr (Or.inr (Or.inr (Or.inr (Or.inr (Or.inr (Or.inr (Or.inr (Or.inr (?_))))))))); exact zf_val h9 (by decide)
      rcases hsp with rfl | rfl | rfl | rfl | rfl | rfl | rfl | rfl | rfl | rfl
      · have kc0 : (0 : Int32).toInt = 0 := by decide
        refine lv_tableIn (tgt := 76) hx hb dX8_status_23 (by decide) (by decide) rfl (by decide) ?_
        refine lv_aload_n hx hb dX8_status_76 rfl (lv_at hl 0 rfl) ?_
        refine va_get (D := D) (ci := 8) (v := .int npu) (C := RX8) (T := TX8) (N := 38) hx hb hts hi_X8_status_8 hown hK hP 0 rfl rfl 0 (by decide) (hts (.fieldLink RX8 90 "TheLiningsInItModel" "pulls" "I") (List.mem_of_getElem? (i := 2) rfl)) (fun _ h9 => h9) rfl dX8_status_77 ?_
        exact W.iret (v := npu) hx hb hr (fun t ht hW => ⟨npu, rfl, trivial, ht⟩) (fun q hq => by cases hq) dX8_status_80
      · have kc1 : (1 : Int32).toInt = 1 := by decide
        refine lv_tableIn (tgt := 81) hx hb dX8_status_23 (by decide) (by decide) rfl (by decide) ?_
        refine lv_aload_n hx hb dX8_status_81 rfl (lv_at hl 0 rfl) ?_
        refine va_get (D := D) (ci := 8) (v := .int nte) (C := RX8) (T := TX8) (N := 38) hx hb hts hi_X8_status_8 hown hK hP 0 rfl rfl 1 (by decide) (hts (.fieldLink RX8 7 "TheLiningsInItModel" "teeth" "I") (List.mem_of_getElem? (i := 3) rfl)) (fun _ h9 => h9) rfl dX8_status_82 ?_
        exact W.iret (v := nte) hx hb hr (fun t ht hW => ⟨nte, rfl, trivial, ht⟩) (fun q hq => by cases hq) dX8_status_85
      · have kc2 : (2 : Int32).toInt = 2 := by decide
        refine lv_tableIn (tgt := 86) hx hb dX8_status_23 (by decide) (by decide) rfl (by decide) ?_
        refine lv_aload_n hx hb dX8_status_86 rfl (lv_at hl 0 rfl) ?_
        refine va_get (D := D) (ci := 8) (v := .int nat_) (C := RX8) (T := TX8) (N := 38) hx hb hts hi_X8_status_8 hown hK hP 0 rfl rfl 2 (by decide) (hts (.fieldLink RX8 122 "TheLiningsInItModel" "at" "I") (List.mem_of_getElem? (i := 4) rfl)) (fun _ h9 => h9) rfl dX8_status_87 ?_
        exact W.iret (v := nat_) hx hb hr (fun t ht hW => ⟨nat_, rfl, trivial, ht⟩) (fun q hq => by cases hq) dX8_status_90
      · have kc3 : (3 : Int32).toInt = 3 := by decide
        refine lv_tableIn (tgt := 91) hx hb dX8_status_23 (by decide) (by decide) rfl (by decide) ?_
        refine lv_aload_n hx hb dX8_status_91 rfl (lv_at hl 0 rfl) ?_
        refine va_get (D := D) (ci := 8) (v := .int nde) (C := RX8) (T := TX8) (N := 38) hx hb hts hi_X8_status_8 hown hK hP 0 rfl rfl 3 (by decide) (hts (.fieldLink RX8 115 "TheLiningsInItModel" "depth" "I") (List.mem_of_getElem? (i := 5) rfl)) (fun _ h9 => h9) rfl dX8_status_92 ?_
        exact W.iret (v := nde) hx hb hr (fun t ht hW => ⟨nde, rfl, trivial, ht⟩) (fun q hq => by cases hq) dX8_status_95
      · have kc4 : (4 : Int32).toInt = 4 := by decide
        refine lv_tableIn (tgt := 96) hx hb dX8_status_23 (by decide) (by decide) rfl (by decide) ?_
        refine lv_aload_n hx hb dX8_status_96 rfl (lv_at hl 0 rfl) ?_
        refine va_get (D := D) (ci := 8) (v := .int nto) (C := RX8) (T := TX8) (N := 38) hx hb hts hi_X8_status_8 hown hK hP 0 rfl rfl 4 (by decide) (hts (.fieldLink RX8 188 "TheLiningsInItModel" "torn" "I") (List.mem_of_getElem? (i := 6) rfl)) (fun _ h9 => h9) rfl dX8_status_97 ?_
        exact W.iret (v := nto) hx hb hr (fun t ht hW => ⟨nto, rfl, trivial, ht⟩) (fun q hq => by cases hq) dX8_status_100
      · have kc5 : (5 : Int32).toInt = 5 := by decide
        refine lv_tableIn (tgt := 101) hx hb dX8_status_23 (by decide) (by decide) rfl (by decide) ?_
        refine lv_aload_n hx hb dX8_status_101 rfl (lv_at hl 0 rfl) ?_
        refine va_get (D := D) (ci := 8) (v := .int nse) (C := RX8) (T := TX8) (N := 38) hx hb hts hi_X8_status_8 hown hK hP 0 rfl rfl 5 (by decide) (hts (.fieldLink RX8 13 "TheLiningsInItModel" "seconds" "I") (List.mem_of_getElem? (i := 7) rfl)) (fun _ h9 => h9) rfl dX8_status_102 ?_
        exact W.iret (v := nse) hx hb hr (fun t ht hW => ⟨nse, rfl, trivial, ht⟩) (fun q hq => by cases hq) dX8_status_105
      · have kc6 : (6 : Int32).toInt = 6 := by decide
        refine lv_tableIn (tgt := 106) hx hb dX8_status_23 (by decide) (by decide) rfl (by decide) ?_
        refine lv_aload_n hx hb dX8_status_106 rfl (lv_at hl 0 rfl) ?_
        refine va_get (D := D) (ci := 8) (v := .int nhu) (C := RX8) (T := TX8) (N := 38) hx hb hts hi_X8_status_8 hown hK hP 0 rfl rfl 6 (by decide) (hts (.fieldLink RX8 135 "TheLiningsInItModel" "hurry" "I") (List.mem_of_getElem? (i := 8) rfl)) (fun _ h9 => h9) rfl dX8_status_107 ?_
        exact W.iret (v := nhu) hx hb hr (fun t ht hW => ⟨nhu, rfl, trivial, ht⟩) (fun q hq => by cases hq) dX8_status_110
      · have kc7 : (7 : Int32).toInt = 7 := by decide
        refine lv_tableIn (tgt := 111) hx hb dX8_status_23 (by decide) (by decide) rfl (by decide) ?_
        refine lv_aload_n hx hb dX8_status_111 rfl (lv_at hl 0 rfl) ?_
        refine va_get (D := D) (ci := 8) (v := .int nga) (C := RX8) (T := TX8) (N := 38) hx hb hts hi_X8_status_8 hown hK hP 0 rfl rfl 7 (by decide) (hts (.fieldLink RX8 16 "TheLiningsInItModel" "gap" "I") (List.mem_of_getElem? (i := 9) rfl)) (fun _ h9 => h9) rfl dX8_status_112 ?_
        exact W.iret (v := nga) hx hb hr (fun t ht hW => ⟨nga, rfl, trivial, ht⟩) (fun q hq => by cases hq) dX8_status_115
      · have kc8 : (8 : Int32).toInt = 8 := by decide
        refine lv_tableIn (tgt := 116) hx hb dX8_status_23 (by decide) (by decide) rfl (by decide) ?_
        refine lv_aload_n hx hb dX8_status_116 rfl (lv_at hl 0 rfl) ?_
        refine va_get (D := D) (ci := 8) (v := .int nsd) (C := RX8) (T := TX8) (N := 38) hx hb hts hi_X8_status_8 hown hK hP 0 rfl rfl 8 (by decide) (hts (.fieldLink RX8 19 "TheLiningsInItModel" "seed" "I") (List.mem_of_getElem? (i := 10) rfl)) (fun _ h9 => h9) rfl dX8_status_117 ?_
        exact W.iret (v := nsd) hx hb hr (fun t ht hW => ⟨nsd, rfl, trivial, ht⟩) (fun q hq => by cases hq) dX8_status_120
      · have kc9 : (9 : Int32).toInt = 9 := by decide
        refine lv_tableIn (tgt := 121) hx hb dX8_status_23 (by decide) (by decide) rfl (by decide) ?_
        refine lv_aload_n hx hb dX8_status_121 rfl (lv_at hl 0 rfl) ?_
        refine va_get (D := D) (ci := 8) (v := .int nra) (C := RX8) (T := TX8) (N := 38) hx hb hts hi_X8_status_8 hown hK hP 0 rfl rfl 36 (by decide) (hts (.fieldLink RX8 285 "TheLiningsInItModel" "ran" "I") (List.mem_of_getElem? (i := 11) rfl)) (fun _ h9 => h9) rfl dX8_status_122 ?_
        exact W.iret (v := nra) hx hb hr (fun t ht hW => ⟨nra, rfl, trivial, ht⟩) (fun q hq => by cases hq) dX8_status_125
  · have fc_1 : 11 ≤ w.toInt := zf_nlt c_1 rfl (by decide)
    refine lv_iload_n hx hb dX8_status_6 rfl (lv_at hl 1 rfl) ?_
    refine lv_bipush (v := 17) hx hb dX8_status_7 (by decide) ?_
    refine lv_icmp_gt (tgt := 22) hx hb dX8_status_9 (by decide) (fun c_2 => ?_) (fun c_2 => ?_)
    · have fc_2 : 17 < w.toInt := zf_lt c_2 (by decide) rfl
      refine lv_iload_n hx hb dX8_status_22 rfl (lv_at hl 1 rfl) ?_
      by_cases hsp : w.toInt < 0 ∨ 9 < w.toInt
      · refine lv_tableOut (tgt := 126) hx hb dX8_status_23 hsp (by decide) ?_
        refine lv_iconst (v := (-1)) hx hb dX8_status_126 (by decide) ?_
        exact W.iret (v := (-1)) hx hb hr (fun t ht hW => ⟨(-1), rfl, trivial, ht⟩) (fun q hq => by cases hq) dX8_status_127
      · exfalso; omega
    · have fc_2 : w.toInt ≤ 17 := zf_nlt c_2 (by decide) rfl
      refine lv_aload_n hx hb dX8_status_12 rfl (lv_at hl 0 rfl) ?_
      refine va_get (D := D) (ci := 8) (v := .ref mrf) (C := RX8) (T := TX8) (N := 38) hx hb hts hi_X8_status_8 hown hK hP 0 rfl rfl 10 (by decide) (hts (.fieldLink RX8 25 "TheLiningsInItModel" "refused" "[I") (List.mem_of_getElem? (i := 1) rfl)) (fun _ h9 => h9) rfl dX8_status_13 ?_
      refine lv_iload_n hx hb dX8_status_16 rfl (lv_at hl 1 rfl) ?_
      refine lv_bipush (v := 10) hx hb dX8_status_17 (by decide) ?_
      refine lv_isub hx hb dX8_status_19 ?_
      refine lv_topi (fun x_3 ex_3 => ?_)
      have qx_3 : x_3.toInt = w.toInt - 10 := by rw [ex_3]; exact zf_sub rfl (by decide) (by omega) (by omega)
      refine va_iald hx hb hK hP 1 0 rfl rfl (zf_in (by omega) (by omega)) dX8_status_20 ?_
      refine lv_topi (fun x_4 ex_4 => ?_)
      exact W.iret (v := x_4) hx hb hr (fun t ht hW => ⟨x_4, rfl, trivial, ht⟩) (fun q hq => by cases hq) dX8_status_21
end
section
theorem gl_X8_wrong_X80 : GoodIn wsX8_wrong wsX80 := (dg_t (dg_t gw_wsX80))
theorem hi_X8_wrong_8 : ∀ w ∈ u_ws RX8 TX8 38, w ∈ wsX8_wrong := fun w h => (gl_X8_wrong_X80 w h).1
theorem gl_X8_isDigit_X80 : GoodIn wsX8_isDigit wsX80 := (dg_t (dg_t (dg_t (dg_t (dg_t gw_wsX80)))))
theorem hi_X8_isDigit_8 : ∀ w ∈ u_ws RX8 TX8 38, w ∈ wsX8_isDigit := fun w h => (gl_X8_isDigit_X80 w h).1
theorem gl_X8_stands_X80 : GoodIn wsX8_stands wsX80 := (dg_t (dg_t (dg_t (dg_t (dg_t (dg_t gw_wsX80))))))
theorem hi_X8_stands_8 : ∀ w ∈ u_ws RX8 TX8 38, w ∈ wsX8_stands := fun w h => (gl_X8_stands_X80 w h).1
theorem hi_X8_reads_8 : ∀ w ∈ u_ws RX8 TX8 38, w ∈ wsX8_reads := fun w h => (gl_X8_reads_X80 w h).1
theorem hi_X8_isSo_8 : ∀ w ∈ u_ws RX8 TX8 38, w ∈ wsX8_isSo := fun w h => (gl_X8_isSo_X80 w h).1
end
section
def wsX8_word : List Cond := (.code yX8_word cX8_word 6 (some .int)) :: (.fieldLink RX8 152 "TheLiningsInItModel" "place" "I") :: (.fieldLink RX8 66 "TheLiningsInItModel" "words" "[I") :: (.fieldLink RX8 155 "TheLiningsInItModel" "end" "I") :: (.fieldLink RX8 59 "TheLiningsInItModel" "cells" "[J") :: (.fieldLink RX8 158 "TheLiningsInItModel" "base" "I") :: (.fieldLink RX8 149 "TheLiningsInItModel" "wrongAt" "I") :: wsX80
def wsX8_item_r1 : List Cond := (Cond.fieldLink RX8 90 "TheLiningsInItModel" "pulls" "I") :: (Cond.fieldLink RX8 152 "TheLiningsInItModel" "place" "I") :: (Cond.fieldLink RX8 69 "TheLiningsInItModel" "numbers" "[I") :: (Cond.fieldLink RX8 155 "TheLiningsInItModel" "end" "I") :: (Cond.fieldLink RX8 59 "TheLiningsInItModel" "cells" "[J") :: (Cond.fieldLink RX8 158 "TheLiningsInItModel" "base" "I") :: (Cond.fieldLink RX8 72 "TheLiningsInItModel" "tell" "[I") :: (Cond.fieldLink RX8 161 "TheLiningsInItModel" "number" "I") :: (Cond.fieldLink RX8 38 "TheLiningsInItModel" "lacks" "[I") :: (Cond.fieldLink RX8 41 "TheLiningsInItModel" "slack" "[I") :: (Cond.fieldLink RX8 44 "TheLiningsInItModel" "cost" "[I") :: (Cond.fieldLink RX8 122 "TheLiningsInItModel" "at" "I") :: (Cond.methodLink RX8 171 yX8_stands) :: (Cond.instanceMethod yX8_stands) :: (Cond.selects RX8 yX8_stands yX8_stands) :: (Cond.initialized RX8) :: (Cond.code yX8_stands cX8_stands 4 (some .boolean)) :: (Cond.fieldLink RX8 66 "TheLiningsInItModel" "words" "[I") :: (Cond.methodLink RX8 168 yX8_wrong) :: (Cond.instanceMethod yX8_wrong) :: (Cond.selects RX8 yX8_wrong yX8_wrong) :: (Cond.code yX8_wrong cX8_wrong 2 (some .boolean)) :: (Cond.fieldLink RX8 149 "TheLiningsInItModel" "wrongAt" "I") :: (Cond.methodLink RX8 174 yX8_word) :: []
def wsX8_item_r2 : List Cond := (Cond.instanceMethod yX8_word) :: (Cond.selects RX8 yX8_word yX8_word) :: (Cond.code yX8_word cX8_word 6 (some .int)) :: (Cond.methodLink RX8 178 yX8_reads) :: (Cond.instanceMethod yX8_reads) :: (Cond.selects RX8 yX8_reads yX8_reads) :: (Cond.code yX8_reads cX8_reads 2 (some .boolean)) :: (Cond.methodLink RX8 164 yX8_isDigit) :: (Cond.instanceMethod yX8_isDigit) :: (Cond.selects RX8 yX8_isDigit yX8_isDigit) :: (Cond.code yX8_isDigit cX8_isDigit 1 (some .boolean)) :: (Cond.methodLink RX8 181 yX8_isSo) :: (Cond.instanceMethod yX8_isSo) :: (Cond.selects RX8 yX8_isSo yX8_isSo) :: (Cond.code yX8_isSo cX8_isSo 3 (some .boolean)) :: (Cond.fieldLink RX8 7 "TheLiningsInItModel" "teeth" "I") :: (Cond.methodLink RX8 138 yX8_isAsked) :: (Cond.instanceMethod yX8_isAsked) :: (Cond.selects RX8 yX8_isAsked yX8_isAsked) :: (Cond.code yX8_isAsked cX8_isAsked 3 (some .boolean)) :: (Cond.methodLink RX8 132 yX8_most) :: (Cond.instanceMethod yX8_most) :: (Cond.selects RX8 yX8_most yX8_most) :: (Cond.code yX8_most cX8_most 2 (some .int)) :: []
def wsX8_item_r3 : List Cond := (Cond.methodLink RX8 125 yX8_sews) :: (Cond.instanceMethod yX8_sews) :: (Cond.selects RX8 yX8_sews yX8_sews) :: (Cond.code yX8_sews cX8_sews 3 none) :: (Cond.methodLink RX8 111 yX8_addsPull) :: (Cond.instanceMethod yX8_addsPull) :: (Cond.selects RX8 yX8_addsPull yX8_addsPull) :: (Cond.code yX8_addsPull cX8_addsPull 4 (some .int)) :: (Cond.fieldLink RX8 29 "TheLiningsInItModel" "kind" "[I") :: (Cond.fieldLink RX8 32 "TheLiningsInItModel" "part" "[I") :: (Cond.fieldLink RX8 35 "TheLiningsInItModel" "takes" "[I") :: (Cond.methodLink RX8 145 yX8_tells) :: (Cond.instanceMethod yX8_tells) :: (Cond.selects RX8 yX8_tells yX8_tells) :: (Cond.code yX8_tells cX8_tells 3 none) :: (Cond.fieldLink RX8 115 "TheLiningsInItModel" "depth" "I") :: (Cond.fieldLink RX8 13 "TheLiningsInItModel" "seconds" "I") :: (Cond.fieldLink RX8 135 "TheLiningsInItModel" "hurry" "I") :: (Cond.fieldLink RX8 16 "TheLiningsInItModel" "gap" "I") :: []
def wsX8_item : List Cond := (.code yX8_item cX8_item 4 (some .boolean)) :: ((wsX8_item_r1 ++ (wsX8_item_r2 ++ wsX8_item_r3)) ++ wsX80)
def wsX8_carries : List Cond := (.code yX8_carries cX8_carries 7 (some .int)) :: []
def wsX8_all : List Cond := (.code yX8_all cX8_all 4 none) :: (.fieldLink RX8 29 "TheLiningsInItModel" "kind" "[I") :: (.fieldLink RX8 32 "TheLiningsInItModel" "part" "[I") :: (.fieldLink RX8 35 "TheLiningsInItModel" "takes" "[I") :: (.fieldLink RX8 38 "TheLiningsInItModel" "lacks" "[I") :: (.fieldLink RX8 41 "TheLiningsInItModel" "slack" "[I") :: (.fieldLink RX8 44 "TheLiningsInItModel" "cost" "[I") :: (.fieldLink RX8 90 "TheLiningsInItModel" "pulls" "I") :: (.fieldLink RX8 7 "TheLiningsInItModel" "teeth" "I") :: (.fieldLink RX8 122 "TheLiningsInItModel" "at" "I") :: (.fieldLink RX8 115 "TheLiningsInItModel" "depth" "I") :: (.fieldLink RX8 188 "TheLiningsInItModel" "torn" "I") :: (.fieldLink RX8 13 "TheLiningsInItModel" "seconds" "I") :: (.fieldLink RX8 135 "TheLiningsInItModel" "hurry" "I") :: (.fieldLink RX8 16 "TheLiningsInItModel" "gap" "I") :: (.fieldLink RX8 19 "TheLiningsInItModel" "seed" "I") :: (.methodLink RX8 184 yX8_carries) :: (.instanceMethod yX8_carries) :: (.selects RX8 yX8_carries yX8_carries) :: (.initialized RX8) :: (.code yX8_carries cX8_carries 7 (some .int)) :: wsX80
def wsX8_jacket_r1 : List Cond := (Cond.fieldLink RX8 75 "TheLiningsInItModel" "was" "[I") :: (Cond.fieldLink RX8 158 "TheLiningsInItModel" "base" "I") :: (Cond.fieldLink RX8 152 "TheLiningsInItModel" "place" "I") :: (Cond.fieldLink RX8 53 "TheLiningsInItModel" "size" "[I") :: (Cond.fieldLink RX8 155 "TheLiningsInItModel" "end" "I") :: (Cond.fieldLink RX8 22 "TheLiningsInItModel" "fault" "I") :: (Cond.fieldLink RX8 59 "TheLiningsInItModel" "cells" "[J") :: (Cond.fieldLink RX8 149 "TheLiningsInItModel" "wrongAt" "I") :: (Cond.methodLink RX8 191 yX8_wanted) :: (Cond.instanceMethod yX8_wanted) :: (Cond.selects RX8 yX8_wanted yX8_wanted) :: (Cond.initialized RX8) :: (Cond.code yX8_wanted cX8_wanted 2 (some .int)) :: (Cond.fieldLink RX8 47 "TheLiningsInItModel" "held" "[I") :: (Cond.methodLink RX8 93 yX8_isShelf) :: (Cond.instanceMethod yX8_isShelf) :: (Cond.selects RX8 yX8_isShelf yX8_isShelf) :: (Cond.code yX8_isShelf cX8_isShelf 2 (some .boolean)) :: (Cond.methodLink RX8 97 yX8_no) :: (Cond.instanceMethod yX8_no) :: (Cond.selects RX8 yX8_no yX8_no) :: (Cond.code yX8_no cX8_no 2 (some .int)) :: (Cond.fieldLink RX8 25 "TheLiningsInItModel" "refused" "[I") :: (Cond.methodLink RX8 194 yX8_all) :: []
def wsX8_jacket_r2 : List Cond := (Cond.instanceMethod yX8_all) :: (Cond.selects RX8 yX8_all yX8_all) :: (Cond.code yX8_all cX8_all 4 none) :: (Cond.fieldLink RX8 29 "TheLiningsInItModel" "kind" "[I") :: (Cond.fieldLink RX8 32 "TheLiningsInItModel" "part" "[I") :: (Cond.fieldLink RX8 35 "TheLiningsInItModel" "takes" "[I") :: (Cond.fieldLink RX8 38 "TheLiningsInItModel" "lacks" "[I") :: (Cond.fieldLink RX8 41 "TheLiningsInItModel" "slack" "[I") :: (Cond.fieldLink RX8 44 "TheLiningsInItModel" "cost" "[I") :: (Cond.fieldLink RX8 90 "TheLiningsInItModel" "pulls" "I") :: (Cond.fieldLink RX8 7 "TheLiningsInItModel" "teeth" "I") :: (Cond.fieldLink RX8 122 "TheLiningsInItModel" "at" "I") :: (Cond.fieldLink RX8 115 "TheLiningsInItModel" "depth" "I") :: (Cond.fieldLink RX8 188 "TheLiningsInItModel" "torn" "I") :: (Cond.fieldLink RX8 13 "TheLiningsInItModel" "seconds" "I") :: (Cond.fieldLink RX8 135 "TheLiningsInItModel" "hurry" "I") :: (Cond.fieldLink RX8 16 "TheLiningsInItModel" "gap" "I") :: (Cond.fieldLink RX8 19 "TheLiningsInItModel" "seed" "I") :: (Cond.methodLink RX8 184 yX8_carries) :: (Cond.instanceMethod yX8_carries) :: (Cond.selects RX8 yX8_carries yX8_carries) :: (Cond.code yX8_carries cX8_carries 7 (some .int)) :: (Cond.methodLink RX8 198 yX8_item) :: (Cond.instanceMethod yX8_item) :: []
def wsX8_jacket_r3 : List Cond := (Cond.selects RX8 yX8_item yX8_item) :: (Cond.code yX8_item cX8_item 4 (some .boolean)) :: (Cond.fieldLink RX8 69 "TheLiningsInItModel" "numbers" "[I") :: (Cond.fieldLink RX8 72 "TheLiningsInItModel" "tell" "[I") :: (Cond.fieldLink RX8 161 "TheLiningsInItModel" "number" "I") :: (Cond.methodLink RX8 171 yX8_stands) :: (Cond.instanceMethod yX8_stands) :: (Cond.selects RX8 yX8_stands yX8_stands) :: (Cond.code yX8_stands cX8_stands 4 (some .boolean)) :: (Cond.fieldLink RX8 66 "TheLiningsInItModel" "words" "[I") :: (Cond.methodLink RX8 168 yX8_wrong) :: (Cond.instanceMethod yX8_wrong) :: (Cond.selects RX8 yX8_wrong yX8_wrong) :: (Cond.code yX8_wrong cX8_wrong 2 (some .boolean)) :: (Cond.methodLink RX8 174 yX8_word) :: (Cond.instanceMethod yX8_word) :: (Cond.selects RX8 yX8_word yX8_word) :: (Cond.code yX8_word cX8_word 6 (some .int)) :: (Cond.methodLink RX8 178 yX8_reads) :: (Cond.instanceMethod yX8_reads) :: (Cond.selects RX8 yX8_reads yX8_reads) :: (Cond.code yX8_reads cX8_reads 2 (some .boolean)) :: (Cond.methodLink RX8 164 yX8_isDigit) :: (Cond.instanceMethod yX8_isDigit) :: []
def wsX8_jacket_r4 : List Cond := (Cond.selects RX8 yX8_isDigit yX8_isDigit) :: (Cond.code yX8_isDigit cX8_isDigit 1 (some .boolean)) :: (Cond.methodLink RX8 181 yX8_isSo) :: (Cond.instanceMethod yX8_isSo) :: (Cond.selects RX8 yX8_isSo yX8_isSo) :: (Cond.code yX8_isSo cX8_isSo 3 (some .boolean)) :: (Cond.methodLink RX8 138 yX8_isAsked) :: (Cond.instanceMethod yX8_isAsked) :: (Cond.selects RX8 yX8_isAsked yX8_isAsked) :: (Cond.code yX8_isAsked cX8_isAsked 3 (some .boolean)) :: (Cond.methodLink RX8 132 yX8_most) :: (Cond.instanceMethod yX8_most) :: (Cond.selects RX8 yX8_most yX8_most) :: (Cond.code yX8_most cX8_most 2 (some .int)) :: (Cond.methodLink RX8 125 yX8_sews) :: (Cond.instanceMethod yX8_sews) :: (Cond.selects RX8 yX8_sews yX8_sews) :: (Cond.code yX8_sews cX8_sews 3 none) :: (Cond.methodLink RX8 111 yX8_addsPull) :: (Cond.instanceMethod yX8_addsPull) :: (Cond.selects RX8 yX8_addsPull yX8_addsPull) :: (Cond.code yX8_addsPull cX8_addsPull 4 (some .int)) :: (Cond.methodLink RX8 145 yX8_tells) :: (Cond.instanceMethod yX8_tells) :: []
def wsX8_jacket_r5 : List Cond := (Cond.selects RX8 yX8_tells yX8_tells) :: (Cond.code yX8_tells cX8_tells 3 none) :: []
def wsX8_jacket : List Cond := (.code yX8_jacket cX8_jacket 5 (some .int)) :: ((wsX8_jacket_r1 ++ (wsX8_jacket_r2 ++ (wsX8_jacket_r3 ++ (wsX8_jacket_r4 ++ wsX8_jacket_r5)))) ++ wsX80)
def wsX8_image_r1 : List Cond := (Cond.fieldLink RX8 300 "TheLiningsInItModel" "isKept" "Z") :: (Cond.fieldLink RX8 78 "TheLiningsInItModel" "kept" "[I") :: (Cond.fieldLink RX8 90 "TheLiningsInItModel" "pulls" "I") :: (Cond.methodLink RX8 194 yX8_all) :: (Cond.instanceMethod yX8_all) :: (Cond.selects RX8 yX8_all yX8_all) :: (Cond.initialized RX8) :: (Cond.code yX8_all cX8_all 4 none) :: (Cond.fieldLink RX8 29 "TheLiningsInItModel" "kind" "[I") :: (Cond.fieldLink RX8 32 "TheLiningsInItModel" "part" "[I") :: (Cond.fieldLink RX8 35 "TheLiningsInItModel" "takes" "[I") :: (Cond.fieldLink RX8 38 "TheLiningsInItModel" "lacks" "[I") :: (Cond.fieldLink RX8 41 "TheLiningsInItModel" "slack" "[I") :: (Cond.fieldLink RX8 44 "TheLiningsInItModel" "cost" "[I") :: (Cond.fieldLink RX8 7 "TheLiningsInItModel" "teeth" "I") :: (Cond.fieldLink RX8 122 "TheLiningsInItModel" "at" "I") :: (Cond.fieldLink RX8 115 "TheLiningsInItModel" "depth" "I") :: (Cond.fieldLink RX8 188 "TheLiningsInItModel" "torn" "I") :: (Cond.fieldLink RX8 13 "TheLiningsInItModel" "seconds" "I") :: (Cond.fieldLink RX8 135 "TheLiningsInItModel" "hurry" "I") :: (Cond.fieldLink RX8 16 "TheLiningsInItModel" "gap" "I") :: (Cond.fieldLink RX8 19 "TheLiningsInItModel" "seed" "I") :: (Cond.methodLink RX8 184 yX8_carries) :: (Cond.instanceMethod yX8_carries) :: []
def wsX8_image_r2 : List Cond := (Cond.selects RX8 yX8_carries yX8_carries) :: (Cond.code yX8_carries cX8_carries 7 (some .int)) :: []
def wsX8_image : List Cond := (.code yX8_image cX8_image 1 (some .int)) :: ((wsX8_image_r1 ++ wsX8_image_r2) ++ wsX80)
def wsX8_restore_r1 : List Cond := (Cond.fieldLink RX8 300 "TheLiningsInItModel" "isKept" "Z") :: (Cond.fieldLink RX8 78 "TheLiningsInItModel" "kept" "[I") :: (Cond.fieldLink RX8 47 "TheLiningsInItModel" "held" "[I") :: (Cond.fieldLink RX8 56 "TheLiningsInItModel" "shown" "[I") :: (Cond.fieldLink RX8 90 "TheLiningsInItModel" "pulls" "I") :: (Cond.methodLink RX8 97 yX8_no) :: (Cond.instanceMethod yX8_no) :: (Cond.selects RX8 yX8_no yX8_no) :: (Cond.initialized RX8) :: (Cond.code yX8_no cX8_no 2 (some .int)) :: (Cond.fieldLink RX8 25 "TheLiningsInItModel" "refused" "[I") :: (Cond.methodLink RX8 194 yX8_all) :: (Cond.instanceMethod yX8_all) :: (Cond.selects RX8 yX8_all yX8_all) :: (Cond.code yX8_all cX8_all 4 none) :: (Cond.fieldLink RX8 29 "TheLiningsInItModel" "kind" "[I") :: (Cond.fieldLink RX8 32 "TheLiningsInItModel" "part" "[I") :: (Cond.fieldLink RX8 35 "TheLiningsInItModel" "takes" "[I") :: (Cond.fieldLink RX8 38 "TheLiningsInItModel" "lacks" "[I") :: (Cond.fieldLink RX8 41 "TheLiningsInItModel" "slack" "[I") :: (Cond.fieldLink RX8 44 "TheLiningsInItModel" "cost" "[I") :: (Cond.fieldLink RX8 7 "TheLiningsInItModel" "teeth" "I") :: (Cond.fieldLink RX8 122 "TheLiningsInItModel" "at" "I") :: (Cond.fieldLink RX8 115 "TheLiningsInItModel" "depth" "I") :: []
def wsX8_restore_r2 : List Cond := (Cond.fieldLink RX8 188 "TheLiningsInItModel" "torn" "I") :: (Cond.fieldLink RX8 13 "TheLiningsInItModel" "seconds" "I") :: (Cond.fieldLink RX8 135 "TheLiningsInItModel" "hurry" "I") :: (Cond.fieldLink RX8 16 "TheLiningsInItModel" "gap" "I") :: (Cond.fieldLink RX8 19 "TheLiningsInItModel" "seed" "I") :: (Cond.methodLink RX8 184 yX8_carries) :: (Cond.instanceMethod yX8_carries) :: (Cond.selects RX8 yX8_carries yX8_carries) :: (Cond.code yX8_carries cX8_carries 7 (some .int)) :: []
def wsX8_restore : List Cond := (.code yX8_restore cX8_restore 2 (some .int)) :: ((wsX8_restore_r1 ++ wsX8_restore_r2) ++ wsX80)
theorem dX8_word_0 : decode cX8_word 0 = .ok (.iconst 0, 1) := dq_3 dp_cX8_word rfl
theorem dX8_word_1 : decode cX8_word 1 = .ok (.istore_n 1, 1) := dq_60 dp_cX8_word rfl
theorem dX8_word_2 : decode cX8_word 2 = .ok (.aload_n 0, 1) := dq_42 dp_cX8_word rfl
theorem dX8_word_3 : decode cX8_word 3 = .ok (.getfield 152, 3) := dq_180 dp_cX8_word rfl
theorem dX8_word_6 : decode cX8_word 6 = .ok (.istore_n 2, 1) := dq_61 dp_cX8_word rfl
theorem dX8_word_7 : decode cX8_word 7 = .ok (.iconst 0, 1) := dq_3 dp_cX8_word rfl
theorem dX8_word_8 : decode cX8_word 8 = .ok (.istore_n 3, 1) := dq_62 dp_cX8_word rfl
theorem dX8_word_9 : decode cX8_word 9 = .ok (.iload_n 3, 1) := dq_29 dp_cX8_word rfl
theorem dX8_word_10 : decode cX8_word 10 = .ok (.bipush 10, 2) := dq_16 (v := 10) dp_cX8_word rfl rfl
theorem dX8_word_12 : decode cX8_word 12 = .ok (.if_icmp .ge 118, 3) := dq_162 (v := 118) dp_cX8_word rfl rfl
theorem dX8_word_15 : decode cX8_word 15 = .ok (.aload_n 0, 1) := dq_42 dp_cX8_word rfl
theorem dX8_word_16 : decode cX8_word 16 = .ok (.getfield 152, 3) := dq_180 dp_cX8_word rfl
theorem dX8_word_19 : decode cX8_word 19 = .ok (.istore 4, 2) := dq_54 dp_cX8_word rfl
theorem dX8_word_21 : decode cX8_word 21 = .ok (.iload_n 1, 1) := dq_27 dp_cX8_word rfl
theorem dX8_word_22 : decode cX8_word 22 = .ok (.istore 5, 2) := dq_54 dp_cX8_word rfl
theorem dX8_word_24 : decode cX8_word 24 = .ok (.aload_n 0, 1) := dq_42 dp_cX8_word rfl
theorem dX8_word_25 : decode cX8_word 25 = .ok (.getfield 66, 3) := dq_180 dp_cX8_word rfl
theorem dX8_word_28 : decode cX8_word 28 = .ok (.iload 5, 2) := dq_21 dp_cX8_word rfl
theorem dX8_word_30 : decode cX8_word 30 = .ok (.iaload, 1) := dq_46 dp_cX8_word rfl
theorem dX8_word_31 : decode cX8_word 31 = .ok (.ifCond .eq 44, 3) := dq_153 (v := 44) dp_cX8_word rfl rfl
theorem dX8_word_34 : decode cX8_word 34 = .ok (.iload 4, 2) := dq_21 dp_cX8_word rfl
theorem dX8_word_36 : decode cX8_word 36 = .ok (.aload_n 0, 1) := dq_42 dp_cX8_word rfl
theorem dX8_word_37 : decode cX8_word 37 = .ok (.getfield 155, 3) := dq_180 dp_cX8_word rfl
theorem dX8_word_40 : decode cX8_word 40 = .ok (.if_icmp .ge 35, 3) := dq_162 (v := 35) dp_cX8_word rfl rfl
theorem dX8_word_43 : decode cX8_word 43 = .ok (.aload_n 0, 1) := dq_42 dp_cX8_word rfl
theorem dX8_word_44 : decode cX8_word 44 = .ok (.getfield 59, 3) := dq_180 dp_cX8_word rfl
theorem dX8_word_47 : decode cX8_word 47 = .ok (.aload_n 0, 1) := dq_42 dp_cX8_word rfl
theorem dX8_word_48 : decode cX8_word 48 = .ok (.getfield 158, 3) := dq_180 dp_cX8_word rfl
theorem dX8_word_51 : decode cX8_word 51 = .ok (.iload 4, 2) := dq_21 dp_cX8_word rfl
theorem dX8_word_53 : decode cX8_word 53 = .ok (.iadd, 1) := dq_96 dp_cX8_word rfl
theorem dX8_word_54 : decode cX8_word 54 = .ok (.laload, 1) := dq_47 dp_cX8_word rfl
theorem dX8_word_55 : decode cX8_word 55 = .ok (.l2i, 1) := dq_136 dp_cX8_word rfl
theorem dX8_word_56 : decode cX8_word 56 = .ok (.aload_n 0, 1) := dq_42 dp_cX8_word rfl
theorem dX8_word_57 : decode cX8_word 57 = .ok (.getfield 66, 3) := dq_180 dp_cX8_word rfl
theorem dX8_word_60 : decode cX8_word 60 = .ok (.iload 5, 2) := dq_21 dp_cX8_word rfl
theorem dX8_word_62 : decode cX8_word 62 = .ok (.iaload, 1) := dq_46 dp_cX8_word rfl
theorem dX8_word_63 : decode cX8_word 63 = .ok (.if_icmp .ne 12, 3) := dq_160 (v := 12) dp_cX8_word rfl rfl
theorem dX8_word_66 : decode cX8_word 66 = .ok (.iinc 4 1, 3) := dq_132 (v := 1) dp_cX8_word rfl (by decide) rfl
theorem dX8_word_69 : decode cX8_word 69 = .ok (.iinc 5 1, 3) := dq_132 (v := 1) dp_cX8_word rfl (by decide) rfl
theorem dX8_word_72 : decode cX8_word 72 = .ok (.goto (-48), 3) := dq_167 (v := 65488) dp_cX8_word rfl rfl
theorem dX8_word_75 : decode cX8_word 75 = .ok (.aload_n 0, 1) := dq_42 dp_cX8_word rfl
theorem dX8_word_76 : decode cX8_word 76 = .ok (.getfield 66, 3) := dq_180 dp_cX8_word rfl
theorem dX8_word_79 : decode cX8_word 79 = .ok (.iload 5, 2) := dq_21 dp_cX8_word rfl
theorem dX8_word_81 : decode cX8_word 81 = .ok (.iaload, 1) := dq_46 dp_cX8_word rfl
theorem dX8_word_82 : decode cX8_word 82 = .ok (.ifCond .ne 11, 3) := dq_154 (v := 11) dp_cX8_word rfl rfl
theorem dX8_word_85 : decode cX8_word 85 = .ok (.aload_n 0, 1) := dq_42 dp_cX8_word rfl
theorem dX8_word_86 : decode cX8_word 86 = .ok (.iload 4, 2) := dq_21 dp_cX8_word rfl
theorem dX8_word_88 : decode cX8_word 88 = .ok (.putfield 152, 3) := dq_181 dp_cX8_word rfl
theorem dX8_word_91 : decode cX8_word 91 = .ok (.iload_n 3, 1) := dq_29 dp_cX8_word rfl
theorem dX8_word_92 : decode cX8_word 92 = .ok (.ireturn, 1) := dq_172 dp_cX8_word rfl
theorem dX8_word_93 : decode cX8_word 93 = .ok (.iload 4, 2) := dq_21 dp_cX8_word rfl
theorem dX8_word_95 : decode cX8_word 95 = .ok (.iload_n 2, 1) := dq_28 dp_cX8_word rfl
theorem dX8_word_96 : decode cX8_word 96 = .ok (.if_icmp .le 8, 3) := dq_164 (v := 8) dp_cX8_word rfl rfl
theorem dX8_word_99 : decode cX8_word 99 = .ok (.iload 4, 2) := dq_21 dp_cX8_word rfl
theorem dX8_word_101 : decode cX8_word 101 = .ok (.goto 4, 3) := dq_167 (v := 4) dp_cX8_word rfl rfl
theorem dX8_word_104 : decode cX8_word 104 = .ok (.iload_n 2, 1) := dq_28 dp_cX8_word rfl
theorem dX8_word_105 : decode cX8_word 105 = .ok (.istore_n 2, 1) := dq_61 dp_cX8_word rfl
theorem dX8_word_106 : decode cX8_word 106 = .ok (.aload_n 0, 1) := dq_42 dp_cX8_word rfl
theorem dX8_word_107 : decode cX8_word 107 = .ok (.getfield 66, 3) := dq_180 dp_cX8_word rfl
theorem dX8_word_110 : decode cX8_word 110 = .ok (.iload_n 1, 1) := dq_27 dp_cX8_word rfl
theorem dX8_word_111 : decode cX8_word 111 = .ok (.iaload, 1) := dq_46 dp_cX8_word rfl
theorem dX8_word_112 : decode cX8_word 112 = .ok (.ifCond .eq 9, 3) := dq_153 (v := 9) dp_cX8_word rfl rfl
theorem dX8_word_115 : decode cX8_word 115 = .ok (.iinc 1 1, 3) := dq_132 (v := 1) dp_cX8_word rfl (by decide) rfl
theorem dX8_word_118 : decode cX8_word 118 = .ok (.goto (-12), 3) := dq_167 (v := 65524) dp_cX8_word rfl rfl
theorem dX8_word_121 : decode cX8_word 121 = .ok (.iinc 1 1, 3) := dq_132 (v := 1) dp_cX8_word rfl (by decide) rfl
theorem dX8_word_124 : decode cX8_word 124 = .ok (.iinc 3 1, 3) := dq_132 (v := 1) dp_cX8_word rfl (by decide) rfl
theorem dX8_word_127 : decode cX8_word 127 = .ok (.goto (-118), 3) := dq_167 (v := 65418) dp_cX8_word rfl rfl
theorem dX8_word_130 : decode cX8_word 130 = .ok (.aload_n 0, 1) := dq_42 dp_cX8_word rfl
theorem dX8_word_131 : decode cX8_word 131 = .ok (.iload_n 2, 1) := dq_28 dp_cX8_word rfl
theorem dX8_word_132 : decode cX8_word 132 = .ok (.putfield 149, 3) := dq_181 dp_cX8_word rfl
theorem dX8_word_135 : decode cX8_word 135 = .ok (.iconst (-1), 1) := dq_2 dp_cX8_word rfl
theorem dX8_word_136 : decode cX8_word 136 = .ok (.ireturn, 1) := dq_172 dp_cX8_word rfl
set_option maxRecDepth 20000 in
theorem gl_X8_item_X80 : GoodIn wsX8_item wsX80 := (dg_t (dg_r gw_wsX80))
theorem ggX8_item_X8_stands : GoodIn wsX8_item wsX8_stands := (dg_c 17 rfl rfl (dg_c 18 rfl rfl (dg_c 2 rfl rfl (dg_c 4 rfl rfl (dg_c 5 rfl rfl (dg_c 6 rfl rfl gl_X8_item_X80))))))
set_option maxRecDepth 20000 in
theorem gX8_item_X8_stands : GoodIn wsX8_item (wsV RX8 171 RX8 yX8_stands wsX8_stands) := goodIn_app (dg_c 13 rfl rfl (dg_c 14 rfl rfl (dg_c 15 rfl rfl (dg_c 16 rfl rfl dg_0)))) ggX8_item_X8_stands
set_option maxRecDepth 20000 in
theorem ggX8_item_X8_wrong : GoodIn wsX8_item wsX8_wrong := (dg_c 22 rfl rfl (dg_c 23 rfl rfl gl_X8_item_X80))
set_option maxRecDepth 20000 in
theorem gX8_item_X8_wrong : GoodIn wsX8_item (wsV RX8 168 RX8 yX8_wrong wsX8_wrong) := goodIn_app (dg_c 19 rfl rfl (dg_c 20 rfl rfl (dg_c 21 rfl rfl (dg_c 16 rfl rfl dg_0)))) ggX8_item_X8_wrong
set_option maxRecDepth 20000 in
theorem ggX8_item_X8_word : GoodIn wsX8_item wsX8_word := (dg_c 27 rfl rfl (dg_c 2 rfl rfl (dg_c 18 rfl rfl (dg_c 4 rfl rfl (dg_c 5 rfl rfl (dg_c 6 rfl rfl (dg_c 23 rfl rfl gl_X8_item_X80)))))))
set_option maxRecDepth 20000 in
theorem gX8_item_X8_word : GoodIn wsX8_item (wsV RX8 174 RX8 yX8_word wsX8_word) := goodIn_app (dg_c 24 rfl rfl (dg_c 25 rfl rfl (dg_c 26 rfl rfl (dg_c 16 rfl rfl dg_0)))) ggX8_item_X8_word
set_option maxRecDepth 20000 in
theorem ggX8_item_X8_reads : GoodIn wsX8_item wsX8_reads := (dg_c 31 rfl rfl (dg_c 8 rfl rfl (dg_c 2 rfl rfl (dg_c 5 rfl rfl (dg_c 6 rfl rfl (dg_c 32 rfl rfl (dg_c 33 rfl rfl (dg_c 34 rfl rfl (dg_c 16 rfl rfl (dg_c 35 rfl rfl (dg_c 4 rfl rfl (dg_c 19 rfl rfl (dg_c 20 rfl rfl (dg_c 21 rfl rfl (dg_c 22 rfl rfl (dg_c 23 rfl rfl gl_X8_item_X80))))))))))))))))
set_option maxRecDepth 20000 in
theorem gX8_item_X8_reads : GoodIn wsX8_item (wsV RX8 178 RX8 yX8_reads wsX8_reads) := goodIn_app (dg_c 28 rfl rfl (dg_c 29 rfl rfl (dg_c 30 rfl rfl (dg_c 16 rfl rfl dg_0)))) ggX8_item_X8_reads
set_option maxRecDepth 20000 in
theorem ggX8_item_X8_isSo : GoodIn wsX8_item wsX8_isSo := (dg_c 39 rfl rfl (dg_c 8 rfl rfl (dg_c 40 rfl rfl (dg_c 41 rfl rfl (dg_c 42 rfl rfl (dg_c 43 rfl rfl (dg_c 16 rfl rfl (dg_c 44 rfl rfl (dg_c 45 rfl rfl (dg_c 46 rfl rfl (dg_c 47 rfl rfl (dg_c 48 rfl rfl gl_X8_item_X80))))))))))))
set_option maxRecDepth 20000 in
theorem gX8_item_X8_isSo : GoodIn wsX8_item (wsV RX8 181 RX8 yX8_isSo wsX8_isSo) := goodIn_app (dg_c 36 rfl rfl (dg_c 37 rfl rfl (dg_c 38 rfl rfl (dg_c 16 rfl rfl dg_0)))) ggX8_item_X8_isSo
set_option maxRecDepth 20000 in
theorem ggX8_item_X8_sews : GoodIn wsX8_item wsX8_sews := (dg_c 52 rfl rfl (dg_c 40 rfl rfl (dg_c 12 rfl rfl (dg_c 9 rfl rfl (dg_c 10 rfl rfl gl_X8_item_X80)))))
set_option maxRecDepth 20000 in
theorem gX8_item_X8_sews : GoodIn wsX8_item (wsV RX8 125 RX8 yX8_sews wsX8_sews) := goodIn_app (dg_c 49 rfl rfl (dg_c 50 rfl rfl (dg_c 51 rfl rfl (dg_c 16 rfl rfl dg_0)))) ggX8_item_X8_sews
set_option maxRecDepth 20000 in
theorem ggX8_item_X8_addsPull : GoodIn wsX8_item wsX8_addsPull := (dg_c 56 rfl rfl (dg_c 57 rfl rfl (dg_c 1 rfl rfl (dg_c 58 rfl rfl (dg_c 59 rfl rfl gl_X8_item_X80)))))
set_option maxRecDepth 20000 in
theorem gX8_item_X8_addsPull : GoodIn wsX8_item (wsV RX8 111 RX8 yX8_addsPull wsX8_addsPull) := goodIn_app (dg_c 53 rfl rfl (dg_c 54 rfl rfl (dg_c 55 rfl rfl (dg_c 16 rfl rfl dg_0)))) ggX8_item_X8_addsPull
set_option maxRecDepth 20000 in
theorem ggX8_item_X8_tells : GoodIn wsX8_item wsX8_tells := (dg_c 63 rfl rfl (dg_c 64 rfl rfl (dg_c 65 rfl rfl (dg_c 66 rfl rfl (dg_c 67 rfl rfl (dg_c 12 rfl rfl (dg_c 11 rfl rfl gl_X8_item_X80)))))))
set_option maxRecDepth 20000 in
theorem gX8_item_X8_tells : GoodIn wsX8_item (wsV RX8 145 RX8 yX8_tells wsX8_tells) := goodIn_app (dg_c 60 rfl rfl (dg_c 61 rfl rfl (dg_c 62 rfl rfl (dg_c 16 rfl rfl dg_0)))) ggX8_item_X8_tells
theorem dX8_item_0 : decode cX8_item 0 = .ok (.aload_n 0, 1) := dq_42 dp_cX8_item rfl
theorem dX8_item_1 : decode cX8_item 1 = .ok (.iconst 3, 1) := dq_6 dp_cX8_item rfl
theorem dX8_item_2 : decode cX8_item 2 = .ok (.invokevirtual 171, 3) := dq_182 dp_cX8_item rfl
theorem dX8_item_5 : decode cX8_item 5 = .ok (.ifCond .eq 21, 3) := dq_153 (v := 21) dp_cX8_item rfl rfl
theorem dX8_item_8 : decode cX8_item 8 = .ok (.aload_n 0, 1) := dq_42 dp_cX8_item rfl
theorem dX8_item_9 : decode cX8_item 9 = .ok (.getfield 90, 3) := dq_180 dp_cX8_item rfl
theorem dX8_item_12 : decode cX8_item 12 = .ok (.bipush 8, 2) := dq_16 (v := 8) dp_cX8_item rfl rfl
theorem dX8_item_14 : decode cX8_item 14 = .ok (.if_icmp .ne 12, 3) := dq_160 (v := 12) dp_cX8_item rfl rfl
theorem dX8_item_17 : decode cX8_item 17 = .ok (.aload_n 0, 1) := dq_42 dp_cX8_item rfl
theorem dX8_item_18 : decode cX8_item 18 = .ok (.aload_n 0, 1) := dq_42 dp_cX8_item rfl
theorem dX8_item_19 : decode cX8_item 19 = .ok (.getfield 152, 3) := dq_180 dp_cX8_item rfl
theorem dX8_item_22 : decode cX8_item 22 = .ok (.invokevirtual 168, 3) := dq_182 dp_cX8_item rfl
theorem dX8_item_25 : decode cX8_item 25 = .ok (.ireturn, 1) := dq_172 dp_cX8_item rfl
theorem dX8_item_26 : decode cX8_item 26 = .ok (.aload_n 0, 1) := dq_42 dp_cX8_item rfl
theorem dX8_item_27 : decode cX8_item 27 = .ok (.invokevirtual 174, 3) := dq_182 dp_cX8_item rfl
theorem dX8_item_30 : decode cX8_item 30 = .ok (.istore_n 1, 1) := dq_60 dp_cX8_item rfl
theorem dX8_item_31 : decode cX8_item 31 = .ok (.iload_n 1, 1) := dq_27 dp_cX8_item rfl
theorem dX8_item_32 : decode cX8_item 32 = .ok (.iconst (-1), 1) := dq_2 dp_cX8_item rfl
theorem dX8_item_33 : decode cX8_item 33 = .ok (.if_icmp .ne 5, 3) := dq_160 (v := 5) dp_cX8_item rfl rfl
theorem dX8_item_36 : decode cX8_item 36 = .ok (.iconst 0, 1) := dq_3 dp_cX8_item rfl
theorem dX8_item_37 : decode cX8_item 37 = .ok (.ireturn, 1) := dq_172 dp_cX8_item rfl
theorem dX8_item_38 : decode cX8_item 38 = .ok (.iconst 0, 1) := dq_3 dp_cX8_item rfl
theorem dX8_item_39 : decode cX8_item 39 = .ok (.istore_n 2, 1) := dq_61 dp_cX8_item rfl
theorem dX8_item_40 : decode cX8_item 40 = .ok (.iload_n 2, 1) := dq_28 dp_cX8_item rfl
theorem dX8_item_41 : decode cX8_item 41 = .ok (.aload_n 0, 1) := dq_42 dp_cX8_item rfl
theorem dX8_item_42 : decode cX8_item 42 = .ok (.getfield 69, 3) := dq_180 dp_cX8_item rfl
theorem dX8_item_45 : decode cX8_item 45 = .ok (.iload_n 1, 1) := dq_27 dp_cX8_item rfl
theorem dX8_item_46 : decode cX8_item 46 = .ok (.iaload, 1) := dq_46 dp_cX8_item rfl
theorem dX8_item_47 : decode cX8_item 47 = .ok (.if_icmp .ge 102, 3) := dq_162 (v := 102) dp_cX8_item rfl rfl
theorem dX8_item_50 : decode cX8_item 50 = .ok (.iload_n 2, 1) := dq_28 dp_cX8_item rfl
theorem dX8_item_51 : decode cX8_item 51 = .ok (.ifCond .le 53, 3) := dq_158 (v := 53) dp_cX8_item rfl rfl
theorem dX8_item_54 : decode cX8_item 54 = .ok (.aload_n 0, 1) := dq_42 dp_cX8_item rfl
theorem dX8_item_55 : decode cX8_item 55 = .ok (.getfield 152, 3) := dq_180 dp_cX8_item rfl
theorem dX8_item_58 : decode cX8_item 58 = .ok (.aload_n 0, 1) := dq_42 dp_cX8_item rfl
theorem dX8_item_59 : decode cX8_item 59 = .ok (.getfield 155, 3) := dq_180 dp_cX8_item rfl
theorem dX8_item_62 : decode cX8_item 62 = .ok (.if_icmp .ge 23, 3) := dq_162 (v := 23) dp_cX8_item rfl rfl
theorem dX8_item_65 : decode cX8_item 65 = .ok (.aload_n 0, 1) := dq_42 dp_cX8_item rfl
theorem dX8_item_66 : decode cX8_item 66 = .ok (.getfield 59, 3) := dq_180 dp_cX8_item rfl
theorem dX8_item_69 : decode cX8_item 69 = .ok (.aload_n 0, 1) := dq_42 dp_cX8_item rfl
theorem dX8_item_70 : decode cX8_item 70 = .ok (.getfield 158, 3) := dq_180 dp_cX8_item rfl
theorem dX8_item_73 : decode cX8_item 73 = .ok (.aload_n 0, 1) := dq_42 dp_cX8_item rfl
theorem dX8_item_74 : decode cX8_item 74 = .ok (.getfield 152, 3) := dq_180 dp_cX8_item rfl
theorem dX8_item_77 : decode cX8_item 77 = .ok (.iadd, 1) := dq_96 dp_cX8_item rfl
theorem dX8_item_78 : decode cX8_item 78 = .ok (.laload, 1) := dq_47 dp_cX8_item rfl
theorem dX8_item_79 : decode cX8_item 79 = .ok (.l2i, 1) := dq_136 dp_cX8_item rfl
theorem dX8_item_80 : decode cX8_item 80 = .ok (.bipush 32, 2) := dq_16 (v := 32) dp_cX8_item rfl rfl
theorem dX8_item_82 : decode cX8_item 82 = .ok (.if_icmp .eq 12, 3) := dq_159 (v := 12) dp_cX8_item rfl rfl
theorem dX8_item_85 : decode cX8_item 85 = .ok (.aload_n 0, 1) := dq_42 dp_cX8_item rfl
theorem dX8_item_86 : decode cX8_item 86 = .ok (.aload_n 0, 1) := dq_42 dp_cX8_item rfl
theorem dX8_item_87 : decode cX8_item 87 = .ok (.getfield 152, 3) := dq_180 dp_cX8_item rfl
theorem dX8_item_90 : decode cX8_item 90 = .ok (.invokevirtual 168, 3) := dq_182 dp_cX8_item rfl
theorem dX8_item_93 : decode cX8_item 93 = .ok (.ireturn, 1) := dq_172 dp_cX8_item rfl
theorem dX8_item_94 : decode cX8_item 94 = .ok (.aload_n 0, 1) := dq_42 dp_cX8_item rfl
theorem dX8_item_95 : decode cX8_item 95 = .ok (.dup, 1) := dq_89 dp_cX8_item rfl
theorem dX8_item_96 : decode cX8_item 96 = .ok (.getfield 152, 3) := dq_180 dp_cX8_item rfl
theorem dX8_item_99 : decode cX8_item 99 = .ok (.iconst 1, 1) := dq_4 dp_cX8_item rfl
theorem dX8_item_100 : decode cX8_item 100 = .ok (.iadd, 1) := dq_96 dp_cX8_item rfl
theorem dX8_item_101 : decode cX8_item 101 = .ok (.putfield 152, 3) := dq_181 dp_cX8_item rfl
theorem dX8_item_104 : decode cX8_item 104 = .ok (.aload_n 0, 1) := dq_42 dp_cX8_item rfl
theorem dX8_item_105 : decode cX8_item 105 = .ok (.getfield 152, 3) := dq_180 dp_cX8_item rfl
theorem dX8_item_108 : decode cX8_item 108 = .ok (.istore_n 3, 1) := dq_62 dp_cX8_item rfl
theorem dX8_item_109 : decode cX8_item 109 = .ok (.aload_n 0, 1) := dq_42 dp_cX8_item rfl
theorem dX8_item_110 : decode cX8_item 110 = .ok (.invokevirtual 178, 3) := dq_182 dp_cX8_item rfl
theorem dX8_item_113 : decode cX8_item 113 = .ok (.ifCond .ne 5, 3) := dq_154 (v := 5) dp_cX8_item rfl rfl
theorem dX8_item_116 : decode cX8_item 116 = .ok (.iconst 0, 1) := dq_3 dp_cX8_item rfl
theorem dX8_item_117 : decode cX8_item 117 = .ok (.ireturn, 1) := dq_172 dp_cX8_item rfl
theorem dX8_item_118 : decode cX8_item 118 = .ok (.aload_n 0, 1) := dq_42 dp_cX8_item rfl
theorem dX8_item_119 : decode cX8_item 119 = .ok (.iload_n 1, 1) := dq_27 dp_cX8_item rfl
theorem dX8_item_120 : decode cX8_item 120 = .ok (.iload_n 2, 1) := dq_28 dp_cX8_item rfl
theorem dX8_item_121 : decode cX8_item 121 = .ok (.invokevirtual 181, 3) := dq_182 dp_cX8_item rfl
theorem dX8_item_124 : decode cX8_item 124 = .ok (.ifCond .ne 9, 3) := dq_154 (v := 9) dp_cX8_item rfl rfl
theorem dX8_item_127 : decode cX8_item 127 = .ok (.aload_n 0, 1) := dq_42 dp_cX8_item rfl
theorem dX8_item_128 : decode cX8_item 128 = .ok (.iload_n 3, 1) := dq_29 dp_cX8_item rfl
theorem dX8_item_129 : decode cX8_item 129 = .ok (.invokevirtual 168, 3) := dq_182 dp_cX8_item rfl
theorem dX8_item_132 : decode cX8_item 132 = .ok (.ireturn, 1) := dq_172 dp_cX8_item rfl
theorem dX8_item_133 : decode cX8_item 133 = .ok (.aload_n 0, 1) := dq_42 dp_cX8_item rfl
theorem dX8_item_134 : decode cX8_item 134 = .ok (.getfield 72, 3) := dq_180 dp_cX8_item rfl
theorem dX8_item_137 : decode cX8_item 137 = .ok (.iload_n 2, 1) := dq_28 dp_cX8_item rfl
theorem dX8_item_138 : decode cX8_item 138 = .ok (.aload_n 0, 1) := dq_42 dp_cX8_item rfl
theorem dX8_item_139 : decode cX8_item 139 = .ok (.getfield 161, 3) := dq_180 dp_cX8_item rfl
theorem dX8_item_142 : decode cX8_item 142 = .ok (.iastore, 1) := dq_79 dp_cX8_item rfl
theorem dX8_item_143 : decode cX8_item 143 = .ok (.iinc 2 1, 3) := dq_132 (v := 1) dp_cX8_item rfl (by decide) rfl
theorem dX8_item_146 : decode cX8_item 146 = .ok (.goto (-106), 3) := dq_167 (v := 65430) dp_cX8_item rfl rfl
theorem dX8_item_149 : decode cX8_item 149 = .ok (.iload_n 1, 1) := dq_27 dp_cX8_item rfl
theorem dX8_item_150 : decode cX8_item 150 = .ok (.tableswitch 161 0 9 #[54, 67, 82, 102, 161, 161, 161, 161, 128, 148], 54) := by decide +kernel
theorem dX8_item_204 : decode cX8_item 204 = .ok (.aload_n 0, 1) := dq_42 dp_cX8_item rfl
theorem dX8_item_205 : decode cX8_item 205 = .ok (.aload_n 0, 1) := dq_42 dp_cX8_item rfl
theorem dX8_item_206 : decode cX8_item 206 = .ok (.getfield 72, 3) := dq_180 dp_cX8_item rfl
theorem dX8_item_209 : decode cX8_item 209 = .ok (.iconst 0, 1) := dq_3 dp_cX8_item rfl
theorem dX8_item_210 : decode cX8_item 210 = .ok (.iaload, 1) := dq_46 dp_cX8_item rfl
theorem dX8_item_211 : decode cX8_item 211 = .ok (.invokevirtual 125, 3) := dq_182 dp_cX8_item rfl
theorem dX8_item_214 : decode cX8_item 214 = .ok (.goto 110, 3) := dq_167 (v := 110) dp_cX8_item rfl rfl
theorem dX8_item_217 : decode cX8_item 217 = .ok (.aload_n 0, 1) := dq_42 dp_cX8_item rfl
theorem dX8_item_218 : decode cX8_item 218 = .ok (.getfield 38, 3) := dq_180 dp_cX8_item rfl
theorem dX8_item_221 : decode cX8_item 221 = .ok (.aload_n 0, 1) := dq_42 dp_cX8_item rfl
theorem dX8_item_222 : decode cX8_item 222 = .ok (.getfield 72, 3) := dq_180 dp_cX8_item rfl
theorem dX8_item_225 : decode cX8_item 225 = .ok (.iconst 0, 1) := dq_3 dp_cX8_item rfl
theorem dX8_item_226 : decode cX8_item 226 = .ok (.iaload, 1) := dq_46 dp_cX8_item rfl
theorem dX8_item_227 : decode cX8_item 227 = .ok (.iconst 1, 1) := dq_4 dp_cX8_item rfl
theorem dX8_item_228 : decode cX8_item 228 = .ok (.iastore, 1) := dq_79 dp_cX8_item rfl
theorem dX8_item_229 : decode cX8_item 229 = .ok (.goto 95, 3) := dq_167 (v := 95) dp_cX8_item rfl rfl
theorem dX8_item_232 : decode cX8_item 232 = .ok (.aload_n 0, 1) := dq_42 dp_cX8_item rfl
theorem dX8_item_233 : decode cX8_item 233 = .ok (.getfield 41, 3) := dq_180 dp_cX8_item rfl
theorem dX8_item_236 : decode cX8_item 236 = .ok (.aload_n 0, 1) := dq_42 dp_cX8_item rfl
theorem dX8_item_237 : decode cX8_item 237 = .ok (.getfield 72, 3) := dq_180 dp_cX8_item rfl
theorem dX8_item_240 : decode cX8_item 240 = .ok (.iconst 0, 1) := dq_3 dp_cX8_item rfl
theorem dX8_item_241 : decode cX8_item 241 = .ok (.iaload, 1) := dq_46 dp_cX8_item rfl
theorem dX8_item_242 : decode cX8_item 242 = .ok (.aload_n 0, 1) := dq_42 dp_cX8_item rfl
theorem dX8_item_243 : decode cX8_item 243 = .ok (.getfield 72, 3) := dq_180 dp_cX8_item rfl
theorem dX8_item_246 : decode cX8_item 246 = .ok (.iconst 1, 1) := dq_4 dp_cX8_item rfl
theorem dX8_item_247 : decode cX8_item 247 = .ok (.iaload, 1) := dq_46 dp_cX8_item rfl
theorem dX8_item_248 : decode cX8_item 248 = .ok (.iastore, 1) := dq_79 dp_cX8_item rfl
theorem dX8_item_249 : decode cX8_item 249 = .ok (.goto 75, 3) := dq_167 (v := 75) dp_cX8_item rfl rfl
theorem dX8_item_252 : decode cX8_item 252 = .ok (.aload_n 0, 1) := dq_42 dp_cX8_item rfl
theorem dX8_item_253 : decode cX8_item 253 = .ok (.aload_n 0, 1) := dq_42 dp_cX8_item rfl
theorem dX8_item_254 : decode cX8_item 254 = .ok (.getfield 72, 3) := dq_180 dp_cX8_item rfl
theorem dX8_item_257 : decode cX8_item 257 = .ok (.iconst 0, 1) := dq_3 dp_cX8_item rfl
theorem dX8_item_258 : decode cX8_item 258 = .ok (.iaload, 1) := dq_46 dp_cX8_item rfl
theorem dX8_item_259 : decode cX8_item 259 = .ok (.aload_n 0, 1) := dq_42 dp_cX8_item rfl
theorem dX8_item_260 : decode cX8_item 260 = .ok (.getfield 72, 3) := dq_180 dp_cX8_item rfl
theorem dX8_item_263 : decode cX8_item 263 = .ok (.iconst 1, 1) := dq_4 dp_cX8_item rfl
theorem dX8_item_264 : decode cX8_item 264 = .ok (.iaload, 1) := dq_46 dp_cX8_item rfl
theorem dX8_item_265 : decode cX8_item 265 = .ok (.aload_n 0, 1) := dq_42 dp_cX8_item rfl
theorem dX8_item_266 : decode cX8_item 266 = .ok (.getfield 72, 3) := dq_180 dp_cX8_item rfl
theorem dX8_item_269 : decode cX8_item 269 = .ok (.iconst 2, 1) := dq_5 dp_cX8_item rfl
theorem dX8_item_270 : decode cX8_item 270 = .ok (.iaload, 1) := dq_46 dp_cX8_item rfl
theorem dX8_item_271 : decode cX8_item 271 = .ok (.invokevirtual 111, 3) := dq_182 dp_cX8_item rfl
theorem dX8_item_274 : decode cX8_item 274 = .ok (.pop, 1) := dq_87 dp_cX8_item rfl
theorem dX8_item_275 : decode cX8_item 275 = .ok (.goto 49, 3) := dq_167 (v := 49) dp_cX8_item rfl rfl
theorem dX8_item_278 : decode cX8_item 278 = .ok (.aload_n 0, 1) := dq_42 dp_cX8_item rfl
theorem dX8_item_279 : decode cX8_item 279 = .ok (.getfield 44, 3) := dq_180 dp_cX8_item rfl
theorem dX8_item_282 : decode cX8_item 282 = .ok (.aload_n 0, 1) := dq_42 dp_cX8_item rfl
theorem dX8_item_283 : decode cX8_item 283 = .ok (.getfield 72, 3) := dq_180 dp_cX8_item rfl
theorem dX8_item_286 : decode cX8_item 286 = .ok (.iconst 0, 1) := dq_3 dp_cX8_item rfl
theorem dX8_item_287 : decode cX8_item 287 = .ok (.iaload, 1) := dq_46 dp_cX8_item rfl
theorem dX8_item_288 : decode cX8_item 288 = .ok (.aload_n 0, 1) := dq_42 dp_cX8_item rfl
theorem dX8_item_289 : decode cX8_item 289 = .ok (.getfield 72, 3) := dq_180 dp_cX8_item rfl
theorem dX8_item_292 : decode cX8_item 292 = .ok (.iconst 1, 1) := dq_4 dp_cX8_item rfl
theorem dX8_item_293 : decode cX8_item 293 = .ok (.iaload, 1) := dq_46 dp_cX8_item rfl
theorem dX8_item_294 : decode cX8_item 294 = .ok (.iastore, 1) := dq_79 dp_cX8_item rfl
theorem dX8_item_295 : decode cX8_item 295 = .ok (.goto 29, 3) := dq_167 (v := 29) dp_cX8_item rfl rfl
theorem dX8_item_298 : decode cX8_item 298 = .ok (.aload_n 0, 1) := dq_42 dp_cX8_item rfl
theorem dX8_item_299 : decode cX8_item 299 = .ok (.aload_n 0, 1) := dq_42 dp_cX8_item rfl
theorem dX8_item_300 : decode cX8_item 300 = .ok (.getfield 72, 3) := dq_180 dp_cX8_item rfl
theorem dX8_item_303 : decode cX8_item 303 = .ok (.iconst 0, 1) := dq_3 dp_cX8_item rfl
theorem dX8_item_304 : decode cX8_item 304 = .ok (.iaload, 1) := dq_46 dp_cX8_item rfl
theorem dX8_item_305 : decode cX8_item 305 = .ok (.putfield 122, 3) := dq_181 dp_cX8_item rfl
theorem dX8_item_308 : decode cX8_item 308 = .ok (.goto 16, 3) := dq_167 (v := 16) dp_cX8_item rfl rfl
theorem dX8_item_311 : decode cX8_item 311 = .ok (.aload_n 0, 1) := dq_42 dp_cX8_item rfl
theorem dX8_item_312 : decode cX8_item 312 = .ok (.iload_n 1, 1) := dq_27 dp_cX8_item rfl
theorem dX8_item_313 : decode cX8_item 313 = .ok (.iconst 4, 1) := dq_7 dp_cX8_item rfl
theorem dX8_item_314 : decode cX8_item 314 = .ok (.isub, 1) := dq_100 dp_cX8_item rfl
theorem dX8_item_315 : decode cX8_item 315 = .ok (.aload_n 0, 1) := dq_42 dp_cX8_item rfl
theorem dX8_item_316 : decode cX8_item 316 = .ok (.getfield 72, 3) := dq_180 dp_cX8_item rfl
theorem dX8_item_319 : decode cX8_item 319 = .ok (.iconst 0, 1) := dq_3 dp_cX8_item rfl
theorem dX8_item_320 : decode cX8_item 320 = .ok (.iaload, 1) := dq_46 dp_cX8_item rfl
theorem dX8_item_321 : decode cX8_item 321 = .ok (.invokevirtual 145, 3) := dq_182 dp_cX8_item rfl
theorem dX8_item_324 : decode cX8_item 324 = .ok (.iconst 1, 1) := dq_4 dp_cX8_item rfl
theorem dX8_item_325 : decode cX8_item 325 = .ok (.ireturn, 1) := dq_172 dp_cX8_item rfl
theorem dX8_carries_0 : decode cX8_carries 0 = .ok (.iconst 0, 1) := dq_3 dp_cX8_carries rfl
theorem dX8_carries_1 : decode cX8_carries 1 = .ok (.istore 6, 2) := dq_54 dp_cX8_carries rfl
theorem dX8_carries_3 : decode cX8_carries 3 = .ok (.iload 6, 2) := dq_21 dp_cX8_carries rfl
theorem dX8_carries_5 : decode cX8_carries 5 = .ok (.iload_n 2, 1) := dq_28 dp_cX8_carries rfl
theorem dX8_carries_6 : decode cX8_carries 6 = .ok (.if_icmp .ge 39, 3) := dq_162 (v := 39) dp_cX8_carries rfl rfl
theorem dX8_carries_9 : decode cX8_carries 9 = .ok (.iload 5, 2) := dq_21 dp_cX8_carries rfl
theorem dX8_carries_11 : decode cX8_carries 11 = .ok (.ifCond .eq 17, 3) := dq_153 (v := 17) dp_cX8_carries rfl rfl
theorem dX8_carries_14 : decode cX8_carries 14 = .ok (.aload_n 1, 1) := dq_43 dp_cX8_carries rfl
theorem dX8_carries_15 : decode cX8_carries 15 = .ok (.iload 6, 2) := dq_21 dp_cX8_carries rfl
theorem dX8_carries_17 : decode cX8_carries 17 = .ok (.aload_n 3, 1) := dq_45 dp_cX8_carries rfl
theorem dX8_carries_18 : decode cX8_carries 18 = .ok (.iload 4, 2) := dq_21 dp_cX8_carries rfl
theorem dX8_carries_20 : decode cX8_carries 20 = .ok (.iload 6, 2) := dq_21 dp_cX8_carries rfl
theorem dX8_carries_22 : decode cX8_carries 22 = .ok (.iadd, 1) := dq_96 dp_cX8_carries rfl
theorem dX8_carries_23 : decode cX8_carries 23 = .ok (.iaload, 1) := dq_46 dp_cX8_carries rfl
theorem dX8_carries_24 : decode cX8_carries 24 = .ok (.iastore, 1) := dq_79 dp_cX8_carries rfl
theorem dX8_carries_25 : decode cX8_carries 25 = .ok (.goto 14, 3) := dq_167 (v := 14) dp_cX8_carries rfl rfl
theorem dX8_carries_28 : decode cX8_carries 28 = .ok (.aload_n 3, 1) := dq_45 dp_cX8_carries rfl
theorem dX8_carries_29 : decode cX8_carries 29 = .ok (.iload 4, 2) := dq_21 dp_cX8_carries rfl
theorem dX8_carries_31 : decode cX8_carries 31 = .ok (.iload 6, 2) := dq_21 dp_cX8_carries rfl
theorem dX8_carries_33 : decode cX8_carries 33 = .ok (.iadd, 1) := dq_96 dp_cX8_carries rfl
theorem dX8_carries_34 : decode cX8_carries 34 = .ok (.aload_n 1, 1) := dq_43 dp_cX8_carries rfl
theorem dX8_carries_35 : decode cX8_carries 35 = .ok (.iload 6, 2) := dq_21 dp_cX8_carries rfl
theorem dX8_carries_37 : decode cX8_carries 37 = .ok (.iaload, 1) := dq_46 dp_cX8_carries rfl
theorem dX8_carries_38 : decode cX8_carries 38 = .ok (.iastore, 1) := dq_79 dp_cX8_carries rfl
theorem dX8_carries_39 : decode cX8_carries 39 = .ok (.iinc 6 1, 3) := dq_132 (v := 1) dp_cX8_carries rfl (by decide) rfl
theorem dX8_carries_42 : decode cX8_carries 42 = .ok (.goto (-39), 3) := dq_167 (v := 65497) dp_cX8_carries rfl rfl
theorem dX8_carries_45 : decode cX8_carries 45 = .ok (.iload 4, 2) := dq_21 dp_cX8_carries rfl
theorem dX8_carries_47 : decode cX8_carries 47 = .ok (.iload_n 2, 1) := dq_28 dp_cX8_carries rfl
theorem dX8_carries_48 : decode cX8_carries 48 = .ok (.iadd, 1) := dq_96 dp_cX8_carries rfl
theorem dX8_carries_49 : decode cX8_carries 49 = .ok (.ireturn, 1) := dq_172 dp_cX8_carries rfl
set_option maxRecDepth 20000 in
theorem ggX8_all_X8_carries : GoodIn wsX8_all wsX8_carries := (dg_c 20 rfl rfl dg_0)
set_option maxRecDepth 20000 in
theorem gX8_all_X8_carries : GoodIn wsX8_all (wsV RX8 184 RX8 yX8_carries wsX8_carries) := goodIn_app (dg_c 16 rfl rfl (dg_c 17 rfl rfl (dg_c 18 rfl rfl (dg_c 19 rfl rfl dg_0)))) ggX8_all_X8_carries
theorem dX8_all_0 : decode cX8_all 0 = .ok (.aload_n 0, 1) := dq_42 dp_cX8_all rfl
theorem dX8_all_1 : decode cX8_all 1 = .ok (.aload_n 0, 1) := dq_42 dp_cX8_all rfl
theorem dX8_all_2 : decode cX8_all 2 = .ok (.getfield 29, 3) := dq_180 dp_cX8_all rfl
theorem dX8_all_5 : decode cX8_all 5 = .ok (.bipush 8, 2) := dq_16 (v := 8) dp_cX8_all rfl rfl
theorem dX8_all_7 : decode cX8_all 7 = .ok (.aload_n 1, 1) := dq_43 dp_cX8_all rfl
theorem dX8_all_8 : decode cX8_all 8 = .ok (.iconst 0, 1) := dq_3 dp_cX8_all rfl
theorem dX8_all_9 : decode cX8_all 9 = .ok (.iload_n 2, 1) := dq_28 dp_cX8_all rfl
theorem dX8_all_10 : decode cX8_all 10 = .ok (.invokevirtual 184, 3) := dq_182 dp_cX8_all rfl
theorem dX8_all_13 : decode cX8_all 13 = .ok (.istore_n 3, 1) := dq_62 dp_cX8_all rfl
theorem dX8_all_14 : decode cX8_all 14 = .ok (.aload_n 0, 1) := dq_42 dp_cX8_all rfl
theorem dX8_all_15 : decode cX8_all 15 = .ok (.aload_n 0, 1) := dq_42 dp_cX8_all rfl
theorem dX8_all_16 : decode cX8_all 16 = .ok (.getfield 32, 3) := dq_180 dp_cX8_all rfl
theorem dX8_all_19 : decode cX8_all 19 = .ok (.bipush 8, 2) := dq_16 (v := 8) dp_cX8_all rfl rfl
theorem dX8_all_21 : decode cX8_all 21 = .ok (.aload_n 1, 1) := dq_43 dp_cX8_all rfl
theorem dX8_all_22 : decode cX8_all 22 = .ok (.iload_n 3, 1) := dq_29 dp_cX8_all rfl
theorem dX8_all_23 : decode cX8_all 23 = .ok (.iload_n 2, 1) := dq_28 dp_cX8_all rfl
theorem dX8_all_24 : decode cX8_all 24 = .ok (.invokevirtual 184, 3) := dq_182 dp_cX8_all rfl
theorem dX8_all_27 : decode cX8_all 27 = .ok (.istore_n 3, 1) := dq_62 dp_cX8_all rfl
theorem dX8_all_28 : decode cX8_all 28 = .ok (.aload_n 0, 1) := dq_42 dp_cX8_all rfl
theorem dX8_all_29 : decode cX8_all 29 = .ok (.aload_n 0, 1) := dq_42 dp_cX8_all rfl
theorem dX8_all_30 : decode cX8_all 30 = .ok (.getfield 35, 3) := dq_180 dp_cX8_all rfl
theorem dX8_all_33 : decode cX8_all 33 = .ok (.bipush 8, 2) := dq_16 (v := 8) dp_cX8_all rfl rfl
theorem dX8_all_35 : decode cX8_all 35 = .ok (.aload_n 1, 1) := dq_43 dp_cX8_all rfl
theorem dX8_all_36 : decode cX8_all 36 = .ok (.iload_n 3, 1) := dq_29 dp_cX8_all rfl
theorem dX8_all_37 : decode cX8_all 37 = .ok (.iload_n 2, 1) := dq_28 dp_cX8_all rfl
theorem dX8_all_38 : decode cX8_all 38 = .ok (.invokevirtual 184, 3) := dq_182 dp_cX8_all rfl
theorem dX8_all_41 : decode cX8_all 41 = .ok (.istore_n 3, 1) := dq_62 dp_cX8_all rfl
theorem dX8_all_42 : decode cX8_all 42 = .ok (.aload_n 0, 1) := dq_42 dp_cX8_all rfl
theorem dX8_all_43 : decode cX8_all 43 = .ok (.aload_n 0, 1) := dq_42 dp_cX8_all rfl
theorem dX8_all_44 : decode cX8_all 44 = .ok (.getfield 38, 3) := dq_180 dp_cX8_all rfl
theorem dX8_all_47 : decode cX8_all 47 = .ok (.bipush 40, 2) := dq_16 (v := 40) dp_cX8_all rfl rfl
theorem dX8_all_49 : decode cX8_all 49 = .ok (.aload_n 1, 1) := dq_43 dp_cX8_all rfl
theorem dX8_all_50 : decode cX8_all 50 = .ok (.iload_n 3, 1) := dq_29 dp_cX8_all rfl
theorem dX8_all_51 : decode cX8_all 51 = .ok (.iload_n 2, 1) := dq_28 dp_cX8_all rfl
theorem dX8_all_52 : decode cX8_all 52 = .ok (.invokevirtual 184, 3) := dq_182 dp_cX8_all rfl
theorem dX8_all_55 : decode cX8_all 55 = .ok (.istore_n 3, 1) := dq_62 dp_cX8_all rfl
theorem dX8_all_56 : decode cX8_all 56 = .ok (.aload_n 0, 1) := dq_42 dp_cX8_all rfl
theorem dX8_all_57 : decode cX8_all 57 = .ok (.aload_n 0, 1) := dq_42 dp_cX8_all rfl
theorem dX8_all_58 : decode cX8_all 58 = .ok (.getfield 41, 3) := dq_180 dp_cX8_all rfl
theorem dX8_all_61 : decode cX8_all 61 = .ok (.bipush 40, 2) := dq_16 (v := 40) dp_cX8_all rfl rfl
theorem dX8_all_63 : decode cX8_all 63 = .ok (.aload_n 1, 1) := dq_43 dp_cX8_all rfl
theorem dX8_all_64 : decode cX8_all 64 = .ok (.iload_n 3, 1) := dq_29 dp_cX8_all rfl
theorem dX8_all_65 : decode cX8_all 65 = .ok (.iload_n 2, 1) := dq_28 dp_cX8_all rfl
theorem dX8_all_66 : decode cX8_all 66 = .ok (.invokevirtual 184, 3) := dq_182 dp_cX8_all rfl
theorem dX8_all_69 : decode cX8_all 69 = .ok (.istore_n 3, 1) := dq_62 dp_cX8_all rfl
theorem dX8_all_70 : decode cX8_all 70 = .ok (.aload_n 0, 1) := dq_42 dp_cX8_all rfl
theorem dX8_all_71 : decode cX8_all 71 = .ok (.aload_n 0, 1) := dq_42 dp_cX8_all rfl
theorem dX8_all_72 : decode cX8_all 72 = .ok (.getfield 44, 3) := dq_180 dp_cX8_all rfl
theorem dX8_all_75 : decode cX8_all 75 = .ok (.iconst 3, 1) := dq_6 dp_cX8_all rfl
theorem dX8_all_76 : decode cX8_all 76 = .ok (.aload_n 1, 1) := dq_43 dp_cX8_all rfl
theorem dX8_all_77 : decode cX8_all 77 = .ok (.iload_n 3, 1) := dq_29 dp_cX8_all rfl
theorem dX8_all_78 : decode cX8_all 78 = .ok (.iload_n 2, 1) := dq_28 dp_cX8_all rfl
theorem dX8_all_79 : decode cX8_all 79 = .ok (.invokevirtual 184, 3) := dq_182 dp_cX8_all rfl
theorem dX8_all_82 : decode cX8_all 82 = .ok (.istore_n 3, 1) := dq_62 dp_cX8_all rfl
theorem dX8_all_83 : decode cX8_all 83 = .ok (.iload_n 2, 1) := dq_28 dp_cX8_all rfl
theorem dX8_all_84 : decode cX8_all 84 = .ok (.ifCond .eq 88, 3) := dq_153 (v := 88) dp_cX8_all rfl rfl
theorem dX8_all_87 : decode cX8_all 87 = .ok (.aload_n 0, 1) := dq_42 dp_cX8_all rfl
theorem dX8_all_88 : decode cX8_all 88 = .ok (.aload_n 1, 1) := dq_43 dp_cX8_all rfl
theorem dX8_all_89 : decode cX8_all 89 = .ok (.iload_n 3, 1) := dq_29 dp_cX8_all rfl
theorem dX8_all_90 : decode cX8_all 90 = .ok (.iaload, 1) := dq_46 dp_cX8_all rfl
theorem dX8_all_91 : decode cX8_all 91 = .ok (.putfield 90, 3) := dq_181 dp_cX8_all rfl
theorem dX8_all_94 : decode cX8_all 94 = .ok (.aload_n 0, 1) := dq_42 dp_cX8_all rfl
theorem dX8_all_95 : decode cX8_all 95 = .ok (.aload_n 1, 1) := dq_43 dp_cX8_all rfl
theorem dX8_all_96 : decode cX8_all 96 = .ok (.iload_n 3, 1) := dq_29 dp_cX8_all rfl
theorem dX8_all_97 : decode cX8_all 97 = .ok (.iconst 1, 1) := dq_4 dp_cX8_all rfl
theorem dX8_all_98 : decode cX8_all 98 = .ok (.iadd, 1) := dq_96 dp_cX8_all rfl
theorem dX8_all_99 : decode cX8_all 99 = .ok (.iaload, 1) := dq_46 dp_cX8_all rfl
theorem dX8_all_100 : decode cX8_all 100 = .ok (.putfield 7, 3) := dq_181 dp_cX8_all rfl
theorem dX8_all_103 : decode cX8_all 103 = .ok (.aload_n 0, 1) := dq_42 dp_cX8_all rfl
theorem dX8_all_104 : decode cX8_all 104 = .ok (.aload_n 1, 1) := dq_43 dp_cX8_all rfl
theorem dX8_all_105 : decode cX8_all 105 = .ok (.iload_n 3, 1) := dq_29 dp_cX8_all rfl
theorem dX8_all_106 : decode cX8_all 106 = .ok (.iconst 2, 1) := dq_5 dp_cX8_all rfl
theorem dX8_all_107 : decode cX8_all 107 = .ok (.iadd, 1) := dq_96 dp_cX8_all rfl
theorem dX8_all_108 : decode cX8_all 108 = .ok (.iaload, 1) := dq_46 dp_cX8_all rfl
theorem dX8_all_109 : decode cX8_all 109 = .ok (.putfield 122, 3) := dq_181 dp_cX8_all rfl
theorem dX8_all_112 : decode cX8_all 112 = .ok (.aload_n 0, 1) := dq_42 dp_cX8_all rfl
theorem dX8_all_113 : decode cX8_all 113 = .ok (.aload_n 1, 1) := dq_43 dp_cX8_all rfl
theorem dX8_all_114 : decode cX8_all 114 = .ok (.iload_n 3, 1) := dq_29 dp_cX8_all rfl
theorem dX8_all_115 : decode cX8_all 115 = .ok (.iconst 3, 1) := dq_6 dp_cX8_all rfl
theorem dX8_all_116 : decode cX8_all 116 = .ok (.iadd, 1) := dq_96 dp_cX8_all rfl
theorem dX8_all_117 : decode cX8_all 117 = .ok (.iaload, 1) := dq_46 dp_cX8_all rfl
theorem dX8_all_118 : decode cX8_all 118 = .ok (.putfield 115, 3) := dq_181 dp_cX8_all rfl
theorem dX8_all_121 : decode cX8_all 121 = .ok (.aload_n 0, 1) := dq_42 dp_cX8_all rfl
theorem dX8_all_122 : decode cX8_all 122 = .ok (.aload_n 1, 1) := dq_43 dp_cX8_all rfl
theorem dX8_all_123 : decode cX8_all 123 = .ok (.iload_n 3, 1) := dq_29 dp_cX8_all rfl
theorem dX8_all_124 : decode cX8_all 124 = .ok (.iconst 4, 1) := dq_7 dp_cX8_all rfl
theorem dX8_all_125 : decode cX8_all 125 = .ok (.iadd, 1) := dq_96 dp_cX8_all rfl
theorem dX8_all_126 : decode cX8_all 126 = .ok (.iaload, 1) := dq_46 dp_cX8_all rfl
theorem dX8_all_127 : decode cX8_all 127 = .ok (.putfield 188, 3) := dq_181 dp_cX8_all rfl
theorem dX8_all_130 : decode cX8_all 130 = .ok (.aload_n 0, 1) := dq_42 dp_cX8_all rfl
theorem dX8_all_131 : decode cX8_all 131 = .ok (.aload_n 1, 1) := dq_43 dp_cX8_all rfl
theorem dX8_all_132 : decode cX8_all 132 = .ok (.iload_n 3, 1) := dq_29 dp_cX8_all rfl
theorem dX8_all_133 : decode cX8_all 133 = .ok (.iconst 5, 1) := dq_8 dp_cX8_all rfl
theorem dX8_all_134 : decode cX8_all 134 = .ok (.iadd, 1) := dq_96 dp_cX8_all rfl
theorem dX8_all_135 : decode cX8_all 135 = .ok (.iaload, 1) := dq_46 dp_cX8_all rfl
theorem dX8_all_136 : decode cX8_all 136 = .ok (.putfield 13, 3) := dq_181 dp_cX8_all rfl
theorem dX8_all_139 : decode cX8_all 139 = .ok (.aload_n 0, 1) := dq_42 dp_cX8_all rfl
theorem dX8_all_140 : decode cX8_all 140 = .ok (.aload_n 1, 1) := dq_43 dp_cX8_all rfl
theorem dX8_all_141 : decode cX8_all 141 = .ok (.iload_n 3, 1) := dq_29 dp_cX8_all rfl
theorem dX8_all_142 : decode cX8_all 142 = .ok (.bipush 6, 2) := dq_16 (v := 6) dp_cX8_all rfl rfl
theorem dX8_all_144 : decode cX8_all 144 = .ok (.iadd, 1) := dq_96 dp_cX8_all rfl
theorem dX8_all_145 : decode cX8_all 145 = .ok (.iaload, 1) := dq_46 dp_cX8_all rfl
theorem dX8_all_146 : decode cX8_all 146 = .ok (.putfield 135, 3) := dq_181 dp_cX8_all rfl
theorem dX8_all_149 : decode cX8_all 149 = .ok (.aload_n 0, 1) := dq_42 dp_cX8_all rfl
theorem dX8_all_150 : decode cX8_all 150 = .ok (.aload_n 1, 1) := dq_43 dp_cX8_all rfl
theorem dX8_all_151 : decode cX8_all 151 = .ok (.iload_n 3, 1) := dq_29 dp_cX8_all rfl
theorem dX8_all_152 : decode cX8_all 152 = .ok (.bipush 7, 2) := dq_16 (v := 7) dp_cX8_all rfl rfl
theorem dX8_all_154 : decode cX8_all 154 = .ok (.iadd, 1) := dq_96 dp_cX8_all rfl
theorem dX8_all_155 : decode cX8_all 155 = .ok (.iaload, 1) := dq_46 dp_cX8_all rfl
theorem dX8_all_156 : decode cX8_all 156 = .ok (.putfield 16, 3) := dq_181 dp_cX8_all rfl
theorem dX8_all_159 : decode cX8_all 159 = .ok (.aload_n 0, 1) := dq_42 dp_cX8_all rfl
theorem dX8_all_160 : decode cX8_all 160 = .ok (.aload_n 1, 1) := dq_43 dp_cX8_all rfl
theorem dX8_all_161 : decode cX8_all 161 = .ok (.iload_n 3, 1) := dq_29 dp_cX8_all rfl
theorem dX8_all_162 : decode cX8_all 162 = .ok (.bipush 8, 2) := dq_16 (v := 8) dp_cX8_all rfl rfl
theorem dX8_all_164 : decode cX8_all 164 = .ok (.iadd, 1) := dq_96 dp_cX8_all rfl
theorem dX8_all_165 : decode cX8_all 165 = .ok (.iaload, 1) := dq_46 dp_cX8_all rfl
theorem dX8_all_166 : decode cX8_all 166 = .ok (.putfield 19, 3) := dq_181 dp_cX8_all rfl
theorem dX8_all_169 : decode cX8_all 169 = .ok (.goto 85, 3) := dq_167 (v := 85) dp_cX8_all rfl rfl
theorem dX8_all_172 : decode cX8_all 172 = .ok (.aload_n 1, 1) := dq_43 dp_cX8_all rfl
theorem dX8_all_173 : decode cX8_all 173 = .ok (.iload_n 3, 1) := dq_29 dp_cX8_all rfl
theorem dX8_all_174 : decode cX8_all 174 = .ok (.aload_n 0, 1) := dq_42 dp_cX8_all rfl
theorem dX8_all_175 : decode cX8_all 175 = .ok (.getfield 90, 3) := dq_180 dp_cX8_all rfl
theorem dX8_all_178 : decode cX8_all 178 = .ok (.iastore, 1) := dq_79 dp_cX8_all rfl
theorem dX8_all_179 : decode cX8_all 179 = .ok (.aload_n 1, 1) := dq_43 dp_cX8_all rfl
theorem dX8_all_180 : decode cX8_all 180 = .ok (.iload_n 3, 1) := dq_29 dp_cX8_all rfl
theorem dX8_all_181 : decode cX8_all 181 = .ok (.iconst 1, 1) := dq_4 dp_cX8_all rfl
theorem dX8_all_182 : decode cX8_all 182 = .ok (.iadd, 1) := dq_96 dp_cX8_all rfl
theorem dX8_all_183 : decode cX8_all 183 = .ok (.aload_n 0, 1) := dq_42 dp_cX8_all rfl
theorem dX8_all_184 : decode cX8_all 184 = .ok (.getfield 7, 3) := dq_180 dp_cX8_all rfl
theorem dX8_all_187 : decode cX8_all 187 = .ok (.iastore, 1) := dq_79 dp_cX8_all rfl
theorem dX8_all_188 : decode cX8_all 188 = .ok (.aload_n 1, 1) := dq_43 dp_cX8_all rfl
theorem dX8_all_189 : decode cX8_all 189 = .ok (.iload_n 3, 1) := dq_29 dp_cX8_all rfl
theorem dX8_all_190 : decode cX8_all 190 = .ok (.iconst 2, 1) := dq_5 dp_cX8_all rfl
theorem dX8_all_191 : decode cX8_all 191 = .ok (.iadd, 1) := dq_96 dp_cX8_all rfl
theorem dX8_all_192 : decode cX8_all 192 = .ok (.aload_n 0, 1) := dq_42 dp_cX8_all rfl
theorem dX8_all_193 : decode cX8_all 193 = .ok (.getfield 122, 3) := dq_180 dp_cX8_all rfl
theorem dX8_all_196 : decode cX8_all 196 = .ok (.iastore, 1) := dq_79 dp_cX8_all rfl
theorem dX8_all_197 : decode cX8_all 197 = .ok (.aload_n 1, 1) := dq_43 dp_cX8_all rfl
theorem dX8_all_198 : decode cX8_all 198 = .ok (.iload_n 3, 1) := dq_29 dp_cX8_all rfl
theorem dX8_all_199 : decode cX8_all 199 = .ok (.iconst 3, 1) := dq_6 dp_cX8_all rfl
theorem dX8_all_200 : decode cX8_all 200 = .ok (.iadd, 1) := dq_96 dp_cX8_all rfl
theorem dX8_all_201 : decode cX8_all 201 = .ok (.aload_n 0, 1) := dq_42 dp_cX8_all rfl
theorem dX8_all_202 : decode cX8_all 202 = .ok (.getfield 115, 3) := dq_180 dp_cX8_all rfl
theorem dX8_all_205 : decode cX8_all 205 = .ok (.iastore, 1) := dq_79 dp_cX8_all rfl
theorem dX8_all_206 : decode cX8_all 206 = .ok (.aload_n 1, 1) := dq_43 dp_cX8_all rfl
theorem dX8_all_207 : decode cX8_all 207 = .ok (.iload_n 3, 1) := dq_29 dp_cX8_all rfl
theorem dX8_all_208 : decode cX8_all 208 = .ok (.iconst 4, 1) := dq_7 dp_cX8_all rfl
theorem dX8_all_209 : decode cX8_all 209 = .ok (.iadd, 1) := dq_96 dp_cX8_all rfl
theorem dX8_all_210 : decode cX8_all 210 = .ok (.aload_n 0, 1) := dq_42 dp_cX8_all rfl
theorem dX8_all_211 : decode cX8_all 211 = .ok (.getfield 188, 3) := dq_180 dp_cX8_all rfl
theorem dX8_all_214 : decode cX8_all 214 = .ok (.iastore, 1) := dq_79 dp_cX8_all rfl
theorem dX8_all_215 : decode cX8_all 215 = .ok (.aload_n 1, 1) := dq_43 dp_cX8_all rfl
theorem dX8_all_216 : decode cX8_all 216 = .ok (.iload_n 3, 1) := dq_29 dp_cX8_all rfl
theorem dX8_all_217 : decode cX8_all 217 = .ok (.iconst 5, 1) := dq_8 dp_cX8_all rfl
theorem dX8_all_218 : decode cX8_all 218 = .ok (.iadd, 1) := dq_96 dp_cX8_all rfl
theorem dX8_all_219 : decode cX8_all 219 = .ok (.aload_n 0, 1) := dq_42 dp_cX8_all rfl
theorem dX8_all_220 : decode cX8_all 220 = .ok (.getfield 13, 3) := dq_180 dp_cX8_all rfl
theorem dX8_all_223 : decode cX8_all 223 = .ok (.iastore, 1) := dq_79 dp_cX8_all rfl
theorem dX8_all_224 : decode cX8_all 224 = .ok (.aload_n 1, 1) := dq_43 dp_cX8_all rfl
theorem dX8_all_225 : decode cX8_all 225 = .ok (.iload_n 3, 1) := dq_29 dp_cX8_all rfl
theorem dX8_all_226 : decode cX8_all 226 = .ok (.bipush 6, 2) := dq_16 (v := 6) dp_cX8_all rfl rfl
theorem dX8_all_228 : decode cX8_all 228 = .ok (.iadd, 1) := dq_96 dp_cX8_all rfl
theorem dX8_all_229 : decode cX8_all 229 = .ok (.aload_n 0, 1) := dq_42 dp_cX8_all rfl
theorem dX8_all_230 : decode cX8_all 230 = .ok (.getfield 135, 3) := dq_180 dp_cX8_all rfl
theorem dX8_all_233 : decode cX8_all 233 = .ok (.iastore, 1) := dq_79 dp_cX8_all rfl
theorem dX8_all_234 : decode cX8_all 234 = .ok (.aload_n 1, 1) := dq_43 dp_cX8_all rfl
theorem dX8_all_235 : decode cX8_all 235 = .ok (.iload_n 3, 1) := dq_29 dp_cX8_all rfl
theorem dX8_all_236 : decode cX8_all 236 = .ok (.bipush 7, 2) := dq_16 (v := 7) dp_cX8_all rfl rfl
theorem dX8_all_238 : decode cX8_all 238 = .ok (.iadd, 1) := dq_96 dp_cX8_all rfl
theorem dX8_all_239 : decode cX8_all 239 = .ok (.aload_n 0, 1) := dq_42 dp_cX8_all rfl
theorem dX8_all_240 : decode cX8_all 240 = .ok (.getfield 16, 3) := dq_180 dp_cX8_all rfl
theorem dX8_all_243 : decode cX8_all 243 = .ok (.iastore, 1) := dq_79 dp_cX8_all rfl
theorem dX8_all_244 : decode cX8_all 244 = .ok (.aload_n 1, 1) := dq_43 dp_cX8_all rfl
theorem dX8_all_245 : decode cX8_all 245 = .ok (.iload_n 3, 1) := dq_29 dp_cX8_all rfl
theorem dX8_all_246 : decode cX8_all 246 = .ok (.bipush 8, 2) := dq_16 (v := 8) dp_cX8_all rfl rfl
theorem dX8_all_248 : decode cX8_all 248 = .ok (.iadd, 1) := dq_96 dp_cX8_all rfl
theorem dX8_all_249 : decode cX8_all 249 = .ok (.aload_n 0, 1) := dq_42 dp_cX8_all rfl
theorem dX8_all_250 : decode cX8_all 250 = .ok (.getfield 19, 3) := dq_180 dp_cX8_all rfl
theorem dX8_all_253 : decode cX8_all 253 = .ok (.iastore, 1) := dq_79 dp_cX8_all rfl
theorem dX8_all_254 : decode cX8_all 254 = .ok (.return_, 1) := dq_177 dp_cX8_all rfl
set_option maxRecDepth 20000 in
theorem gl_X8_jacket_X80 : GoodIn wsX8_jacket wsX80 := (dg_t (dg_r gw_wsX80))
theorem ggX8_jacket_X8_wanted : GoodIn wsX8_jacket wsX8_wanted := (dg_c 13 rfl rfl (dg_c 14 rfl rfl (dg_c 15 rfl rfl (dg_c 16 rfl rfl (dg_c 17 rfl rfl (dg_c 12 rfl rfl (dg_c 18 rfl rfl gl_X8_jacket_X80)))))))
set_option maxRecDepth 20000 in
theorem gX8_jacket_X8_wanted : GoodIn wsX8_jacket (wsV RX8 191 RX8 yX8_wanted wsX8_wanted) := goodIn_app (dg_c 9 rfl rfl (dg_c 10 rfl rfl (dg_c 11 rfl rfl (dg_c 12 rfl rfl dg_0)))) ggX8_jacket_X8_wanted
set_option maxRecDepth 20000 in
theorem ggX8_jacket_X8_no : GoodIn wsX8_jacket wsX8_no := (dg_c 22 rfl rfl (dg_c 23 rfl rfl gl_X8_jacket_X80))
set_option maxRecDepth 20000 in
theorem gX8_jacket_X8_no : GoodIn wsX8_jacket (wsV RX8 97 RX8 yX8_no wsX8_no) := goodIn_app (dg_c 19 rfl rfl (dg_c 20 rfl rfl (dg_c 21 rfl rfl (dg_c 12 rfl rfl dg_0)))) ggX8_jacket_X8_no
set_option maxRecDepth 20000 in
theorem ggX8_jacket_X8_all : GoodIn wsX8_jacket wsX8_all := (dg_c 27 rfl rfl (dg_c 28 rfl rfl (dg_c 29 rfl rfl (dg_c 30 rfl rfl (dg_c 31 rfl rfl (dg_c 32 rfl rfl (dg_c 33 rfl rfl (dg_c 34 rfl rfl (dg_c 35 rfl rfl (dg_c 36 rfl rfl (dg_c 37 rfl rfl (dg_c 38 rfl rfl (dg_c 39 rfl rfl (dg_c 40 rfl rfl (dg_c 41 rfl rfl (dg_c 42 rfl rfl (dg_c 43 rfl rfl (dg_c 44 rfl rfl (dg_c 45 rfl rfl (dg_c 12 rfl rfl (dg_c 46 rfl rfl gl_X8_jacket_X80)))))))))))))))))))))
set_option maxRecDepth 20000 in
theorem gX8_jacket_X8_all : GoodIn wsX8_jacket (wsV RX8 194 RX8 yX8_all wsX8_all) := goodIn_app (dg_c 24 rfl rfl (dg_c 25 rfl rfl (dg_c 26 rfl rfl (dg_c 12 rfl rfl dg_0)))) ggX8_jacket_X8_all
set_option maxRecDepth 20000 in
theorem ggX8_jacket_X8_item : GoodIn wsX8_jacket wsX8_item := (dg_c 50 rfl rfl (goodIn_app (goodIn_app (dg_c 34 rfl rfl (dg_c 3 rfl rfl (dg_c 51 rfl rfl (dg_c 5 rfl rfl (dg_c 7 rfl rfl (dg_c 2 rfl rfl (dg_c 52 rfl rfl (dg_c 53 rfl rfl (dg_c 31 rfl rfl (dg_c 32 rfl rfl (dg_c 33 rfl rfl (dg_c 36 rfl rfl (dg_c 54 rfl rfl (dg_c 55 rfl rfl (dg_c 56 rfl rfl (dg_c 12 rfl rfl (dg_c 57 rfl rfl (dg_c 58 rfl rfl (dg_c 59 rfl rfl (dg_c 60 rfl rfl (dg_c 61 rfl rfl (dg_c 62 rfl rfl (dg_c 8 rfl rfl (dg_c 63 rfl rfl dg_0)))))))))))))))))))))))) (goodIn_app (dg_c 64 rfl rfl (dg_c 65 rfl rfl (dg_c 66 rfl rfl (dg_c 67 rfl rfl (dg_c 68 rfl rfl (dg_c 69 rfl rfl (dg_c 70 rfl rfl (dg_c 71 rfl rfl (dg_c 72 rfl rfl (dg_c 73 rfl rfl (dg_c 74 rfl rfl (dg_c 75 rfl rfl (dg_c 76 rfl rfl (dg_c 77 rfl rfl (dg_c 78 rfl rfl (dg_c 35 rfl rfl (dg_c 79 rfl rfl (dg_c 80 rfl rfl (dg_c 81 rfl rfl (dg_c 82 rfl rfl (dg_c 83 rfl rfl (dg_c 84 rfl rfl (dg_c 85 rfl rfl (dg_c 86 rfl rfl dg_0)))))))))))))))))))))))) (dg_c 87 rfl rfl (dg_c 88 rfl rfl (dg_c 89 rfl rfl (dg_c 90 rfl rfl (dg_c 91 rfl rfl (dg_c 92 rfl rfl (dg_c 93 rfl rfl (dg_c 94 rfl rfl (dg_c 28 rfl rfl (dg_c 29 rfl rfl (dg_c 30 rfl rfl (dg_c 95 rfl rfl (dg_c 96 rfl rfl (dg_c 97 rfl rfl (dg_c 98 rfl rfl (dg_c 37 rfl rfl (dg_c 39 rfl rfl (dg_c 40 rfl rfl (dg_c 41 rfl rfl dg_0))))))))))))))))))))) gl_X8_jacket_X80))
set_option maxRecDepth 20000 in
theorem gX8_jacket_X8_item : GoodIn wsX8_jacket (wsV RX8 198 RX8 yX8_item wsX8_item) := goodIn_app (dg_c 47 rfl rfl (dg_c 48 rfl rfl (dg_c 49 rfl rfl (dg_c 12 rfl rfl dg_0)))) ggX8_jacket_X8_item
set_option maxRecDepth 20000 in
theorem ggX8_jacket_X8_wrong : GoodIn wsX8_jacket wsX8_wrong := (dg_c 62 rfl rfl (dg_c 8 rfl rfl gl_X8_jacket_X80))
set_option maxRecDepth 20000 in
theorem gX8_jacket_X8_wrong : GoodIn wsX8_jacket (wsV RX8 168 RX8 yX8_wrong wsX8_wrong) := goodIn_app (dg_c 59 rfl rfl (dg_c 60 rfl rfl (dg_c 61 rfl rfl (dg_c 12 rfl rfl dg_0)))) ggX8_jacket_X8_wrong
theorem dX8_jacket_0 : decode cX8_jacket 0 = .ok (.aload_n 0, 1) := dq_42 dp_cX8_jacket rfl
theorem dX8_jacket_1 : decode cX8_jacket 1 = .ok (.iload_n 1, 1) := dq_27 dp_cX8_jacket rfl
theorem dX8_jacket_2 : decode cX8_jacket 2 = .ok (.invokevirtual 191, 3) := dq_182 dp_cX8_jacket rfl
theorem dX8_jacket_5 : decode cX8_jacket 5 = .ok (.istore_n 2, 1) := dq_61 dp_cX8_jacket rfl
theorem dX8_jacket_6 : decode cX8_jacket 6 = .ok (.iload_n 2, 1) := dq_28 dp_cX8_jacket rfl
theorem dX8_jacket_7 : decode cX8_jacket 7 = .ok (.ifCond .eq 9, 3) := dq_153 (v := 9) dp_cX8_jacket rfl rfl
theorem dX8_jacket_10 : decode cX8_jacket 10 = .ok (.aload_n 0, 1) := dq_42 dp_cX8_jacket rfl
theorem dX8_jacket_11 : decode cX8_jacket 11 = .ok (.iload_n 2, 1) := dq_28 dp_cX8_jacket rfl
theorem dX8_jacket_12 : decode cX8_jacket 12 = .ok (.invokevirtual 97, 3) := dq_182 dp_cX8_jacket rfl
theorem dX8_jacket_15 : decode cX8_jacket 15 = .ok (.ireturn, 1) := dq_172 dp_cX8_jacket rfl
theorem dX8_jacket_16 : decode cX8_jacket 16 = .ok (.aload_n 0, 1) := dq_42 dp_cX8_jacket rfl
theorem dX8_jacket_17 : decode cX8_jacket 17 = .ok (.aload_n 0, 1) := dq_42 dp_cX8_jacket rfl
theorem dX8_jacket_18 : decode cX8_jacket 18 = .ok (.getfield 75, 3) := dq_180 dp_cX8_jacket rfl
theorem dX8_jacket_21 : decode cX8_jacket 21 = .ok (.iconst 0, 1) := dq_3 dp_cX8_jacket rfl
theorem dX8_jacket_22 : decode cX8_jacket 22 = .ok (.invokevirtual 194, 3) := dq_182 dp_cX8_jacket rfl
theorem dX8_jacket_25 : decode cX8_jacket 25 = .ok (.aload_n 0, 1) := dq_42 dp_cX8_jacket rfl
theorem dX8_jacket_26 : decode cX8_jacket 26 = .ok (.sipush 160, 3) := dq_17 (v := 160) dp_cX8_jacket rfl rfl
theorem dX8_jacket_29 : decode cX8_jacket 29 = .ok (.iload_n 1, 1) := dq_27 dp_cX8_jacket rfl
theorem dX8_jacket_30 : decode cX8_jacket 30 = .ok (.imul, 1) := dq_104 dp_cX8_jacket rfl
theorem dX8_jacket_31 : decode cX8_jacket 31 = .ok (.putfield 158, 3) := dq_181 dp_cX8_jacket rfl
theorem dX8_jacket_34 : decode cX8_jacket 34 = .ok (.aload_n 0, 1) := dq_42 dp_cX8_jacket rfl
theorem dX8_jacket_35 : decode cX8_jacket 35 = .ok (.iconst 0, 1) := dq_3 dp_cX8_jacket rfl
theorem dX8_jacket_36 : decode cX8_jacket 36 = .ok (.putfield 152, 3) := dq_181 dp_cX8_jacket rfl
theorem dX8_jacket_39 : decode cX8_jacket 39 = .ok (.aload_n 0, 1) := dq_42 dp_cX8_jacket rfl
theorem dX8_jacket_40 : decode cX8_jacket 40 = .ok (.aload_n 0, 1) := dq_42 dp_cX8_jacket rfl
theorem dX8_jacket_41 : decode cX8_jacket 41 = .ok (.getfield 53, 3) := dq_180 dp_cX8_jacket rfl
theorem dX8_jacket_44 : decode cX8_jacket 44 = .ok (.iload_n 1, 1) := dq_27 dp_cX8_jacket rfl
theorem dX8_jacket_45 : decode cX8_jacket 45 = .ok (.iaload, 1) := dq_46 dp_cX8_jacket rfl
theorem dX8_jacket_46 : decode cX8_jacket 46 = .ok (.putfield 155, 3) := dq_181 dp_cX8_jacket rfl
theorem dX8_jacket_49 : decode cX8_jacket 49 = .ok (.aload_n 0, 1) := dq_42 dp_cX8_jacket rfl
theorem dX8_jacket_50 : decode cX8_jacket 50 = .ok (.iconst (-1), 1) := dq_2 dp_cX8_jacket rfl
theorem dX8_jacket_51 : decode cX8_jacket 51 = .ok (.putfield 22, 3) := dq_181 dp_cX8_jacket rfl
theorem dX8_jacket_54 : decode cX8_jacket 54 = .ok (.iconst 1, 1) := dq_4 dp_cX8_jacket rfl
theorem dX8_jacket_55 : decode cX8_jacket 55 = .ok (.istore_n 3, 1) := dq_62 dp_cX8_jacket rfl
theorem dX8_jacket_56 : decode cX8_jacket 56 = .ok (.aload_n 0, 1) := dq_42 dp_cX8_jacket rfl
theorem dX8_jacket_57 : decode cX8_jacket 57 = .ok (.invokevirtual 198, 3) := dq_182 dp_cX8_jacket rfl
theorem dX8_jacket_60 : decode cX8_jacket 60 = .ok (.istore 4, 2) := dq_54 dp_cX8_jacket rfl
theorem dX8_jacket_62 : decode cX8_jacket 62 = .ok (.iload 4, 2) := dq_21 dp_cX8_jacket rfl
theorem dX8_jacket_64 : decode cX8_jacket 64 = .ok (.ifCond .eq 69, 3) := dq_153 (v := 69) dp_cX8_jacket rfl rfl
theorem dX8_jacket_67 : decode cX8_jacket 67 = .ok (.aload_n 0, 1) := dq_42 dp_cX8_jacket rfl
theorem dX8_jacket_68 : decode cX8_jacket 68 = .ok (.getfield 152, 3) := dq_180 dp_cX8_jacket rfl
theorem dX8_jacket_71 : decode cX8_jacket 71 = .ok (.aload_n 0, 1) := dq_42 dp_cX8_jacket rfl
theorem dX8_jacket_72 : decode cX8_jacket 72 = .ok (.getfield 155, 3) := dq_180 dp_cX8_jacket rfl
theorem dX8_jacket_75 : decode cX8_jacket 75 = .ok (.if_icmp .ge 58, 3) := dq_162 (v := 58) dp_cX8_jacket rfl rfl
theorem dX8_jacket_78 : decode cX8_jacket 78 = .ok (.aload_n 0, 1) := dq_42 dp_cX8_jacket rfl
theorem dX8_jacket_79 : decode cX8_jacket 79 = .ok (.getfield 59, 3) := dq_180 dp_cX8_jacket rfl
theorem dX8_jacket_82 : decode cX8_jacket 82 = .ok (.aload_n 0, 1) := dq_42 dp_cX8_jacket rfl
theorem dX8_jacket_83 : decode cX8_jacket 83 = .ok (.getfield 158, 3) := dq_180 dp_cX8_jacket rfl
theorem dX8_jacket_86 : decode cX8_jacket 86 = .ok (.aload_n 0, 1) := dq_42 dp_cX8_jacket rfl
theorem dX8_jacket_87 : decode cX8_jacket 87 = .ok (.getfield 152, 3) := dq_180 dp_cX8_jacket rfl
theorem dX8_jacket_90 : decode cX8_jacket 90 = .ok (.iadd, 1) := dq_96 dp_cX8_jacket rfl
theorem dX8_jacket_91 : decode cX8_jacket 91 = .ok (.laload, 1) := dq_47 dp_cX8_jacket rfl
theorem dX8_jacket_92 : decode cX8_jacket 92 = .ok (.l2i, 1) := dq_136 dp_cX8_jacket rfl
theorem dX8_jacket_93 : decode cX8_jacket 93 = .ok (.bipush 59, 2) := dq_16 (v := 59) dp_cX8_jacket rfl rfl
theorem dX8_jacket_95 : decode cX8_jacket 95 = .ok (.if_icmp .eq 16, 3) := dq_159 (v := 16) dp_cX8_jacket rfl rfl
theorem dX8_jacket_98 : decode cX8_jacket 98 = .ok (.aload_n 0, 1) := dq_42 dp_cX8_jacket rfl
theorem dX8_jacket_99 : decode cX8_jacket 99 = .ok (.aload_n 0, 1) := dq_42 dp_cX8_jacket rfl
theorem dX8_jacket_100 : decode cX8_jacket 100 = .ok (.getfield 152, 3) := dq_180 dp_cX8_jacket rfl
theorem dX8_jacket_103 : decode cX8_jacket 103 = .ok (.invokevirtual 168, 3) := dq_182 dp_cX8_jacket rfl
theorem dX8_jacket_106 : decode cX8_jacket 106 = .ok (.istore 4, 2) := dq_54 dp_cX8_jacket rfl
theorem dX8_jacket_108 : decode cX8_jacket 108 = .ok (.goto (-46), 3) := dq_167 (v := 65490) dp_cX8_jacket rfl rfl
theorem dX8_jacket_111 : decode cX8_jacket 111 = .ok (.aload_n 0, 1) := dq_42 dp_cX8_jacket rfl
theorem dX8_jacket_112 : decode cX8_jacket 112 = .ok (.dup, 1) := dq_89 dp_cX8_jacket rfl
theorem dX8_jacket_113 : decode cX8_jacket 113 = .ok (.getfield 152, 3) := dq_180 dp_cX8_jacket rfl
theorem dX8_jacket_116 : decode cX8_jacket 116 = .ok (.iconst 1, 1) := dq_4 dp_cX8_jacket rfl
theorem dX8_jacket_117 : decode cX8_jacket 117 = .ok (.iadd, 1) := dq_96 dp_cX8_jacket rfl
theorem dX8_jacket_118 : decode cX8_jacket 118 = .ok (.putfield 152, 3) := dq_181 dp_cX8_jacket rfl
theorem dX8_jacket_121 : decode cX8_jacket 121 = .ok (.iinc 3 1, 3) := dq_132 (v := 1) dp_cX8_jacket rfl (by decide) rfl
theorem dX8_jacket_124 : decode cX8_jacket 124 = .ok (.aload_n 0, 1) := dq_42 dp_cX8_jacket rfl
theorem dX8_jacket_125 : decode cX8_jacket 125 = .ok (.invokevirtual 198, 3) := dq_182 dp_cX8_jacket rfl
theorem dX8_jacket_128 : decode cX8_jacket 128 = .ok (.istore 4, 2) := dq_54 dp_cX8_jacket rfl
theorem dX8_jacket_130 : decode cX8_jacket 130 = .ok (.goto (-68), 3) := dq_167 (v := 65468) dp_cX8_jacket rfl rfl
theorem dX8_jacket_133 : decode cX8_jacket 133 = .ok (.iload 4, 2) := dq_21 dp_cX8_jacket rfl
theorem dX8_jacket_135 : decode cX8_jacket 135 = .ok (.ifCond .eq 5, 3) := dq_153 (v := 5) dp_cX8_jacket rfl rfl
theorem dX8_jacket_138 : decode cX8_jacket 138 = .ok (.iload_n 3, 1) := dq_29 dp_cX8_jacket rfl
theorem dX8_jacket_139 : decode cX8_jacket 139 = .ok (.ireturn, 1) := dq_172 dp_cX8_jacket rfl
theorem dX8_jacket_140 : decode cX8_jacket 140 = .ok (.aload_n 0, 1) := dq_42 dp_cX8_jacket rfl
theorem dX8_jacket_141 : decode cX8_jacket 141 = .ok (.aload_n 0, 1) := dq_42 dp_cX8_jacket rfl
theorem dX8_jacket_142 : decode cX8_jacket 142 = .ok (.getfield 75, 3) := dq_180 dp_cX8_jacket rfl
theorem dX8_jacket_145 : decode cX8_jacket 145 = .ok (.iconst 1, 1) := dq_4 dp_cX8_jacket rfl
theorem dX8_jacket_146 : decode cX8_jacket 146 = .ok (.invokevirtual 194, 3) := dq_182 dp_cX8_jacket rfl
theorem dX8_jacket_149 : decode cX8_jacket 149 = .ok (.aload_n 0, 1) := dq_42 dp_cX8_jacket rfl
theorem dX8_jacket_150 : decode cX8_jacket 150 = .ok (.aload_n 0, 1) := dq_42 dp_cX8_jacket rfl
theorem dX8_jacket_151 : decode cX8_jacket 151 = .ok (.getfield 149, 3) := dq_180 dp_cX8_jacket rfl
theorem dX8_jacket_154 : decode cX8_jacket 154 = .ok (.putfield 22, 3) := dq_181 dp_cX8_jacket rfl
theorem dX8_jacket_157 : decode cX8_jacket 157 = .ok (.aload_n 0, 1) := dq_42 dp_cX8_jacket rfl
theorem dX8_jacket_158 : decode cX8_jacket 158 = .ok (.bipush (-6), 2) := dq_16 (v := 250) dp_cX8_jacket rfl rfl
theorem dX8_jacket_160 : decode cX8_jacket 160 = .ok (.invokevirtual 97, 3) := dq_182 dp_cX8_jacket rfl
theorem dX8_jacket_163 : decode cX8_jacket 163 = .ok (.ireturn, 1) := dq_172 dp_cX8_jacket rfl
set_option maxRecDepth 20000 in
theorem gl_X8_image_X80 : GoodIn wsX8_image wsX80 := (dg_t (dg_r gw_wsX80))
theorem ggX8_image_X8_all : GoodIn wsX8_image wsX8_all := (dg_c 8 rfl rfl (dg_c 9 rfl rfl (dg_c 10 rfl rfl (dg_c 11 rfl rfl (dg_c 12 rfl rfl (dg_c 13 rfl rfl (dg_c 14 rfl rfl (dg_c 3 rfl rfl (dg_c 15 rfl rfl (dg_c 16 rfl rfl (dg_c 17 rfl rfl (dg_c 18 rfl rfl (dg_c 19 rfl rfl (dg_c 20 rfl rfl (dg_c 21 rfl rfl (dg_c 22 rfl rfl (dg_c 23 rfl rfl (dg_c 24 rfl rfl (dg_c 25 rfl rfl (dg_c 7 rfl rfl (dg_c 26 rfl rfl gl_X8_image_X80)))))))))))))))))))))
set_option maxRecDepth 20000 in
theorem gX8_image_X8_all : GoodIn wsX8_image (wsV RX8 194 RX8 yX8_all wsX8_all) := goodIn_app (dg_c 4 rfl rfl (dg_c 5 rfl rfl (dg_c 6 rfl rfl (dg_c 7 rfl rfl dg_0)))) ggX8_image_X8_all
theorem dX8_image_0 : decode cX8_image 0 = .ok (.aload_n 0, 1) := dq_42 dp_cX8_image rfl
theorem dX8_image_1 : decode cX8_image 1 = .ok (.iconst 1, 1) := dq_4 dp_cX8_image rfl
theorem dX8_image_2 : decode cX8_image 2 = .ok (.putfield 300, 3) := dq_181 dp_cX8_image rfl
theorem dX8_image_5 : decode cX8_image 5 = .ok (.aload_n 0, 1) := dq_42 dp_cX8_image rfl
theorem dX8_image_6 : decode cX8_image 6 = .ok (.aload_n 0, 1) := dq_42 dp_cX8_image rfl
theorem dX8_image_7 : decode cX8_image 7 = .ok (.getfield 78, 3) := dq_180 dp_cX8_image rfl
theorem dX8_image_10 : decode cX8_image 10 = .ok (.iconst 0, 1) := dq_3 dp_cX8_image rfl
theorem dX8_image_11 : decode cX8_image 11 = .ok (.invokevirtual 194, 3) := dq_182 dp_cX8_image rfl
theorem dX8_image_14 : decode cX8_image 14 = .ok (.aload_n 0, 1) := dq_42 dp_cX8_image rfl
theorem dX8_image_15 : decode cX8_image 15 = .ok (.getfield 90, 3) := dq_180 dp_cX8_image rfl
theorem dX8_image_18 : decode cX8_image 18 = .ok (.ireturn, 1) := dq_172 dp_cX8_image rfl
set_option maxRecDepth 20000 in
theorem gl_X8_restore_X80 : GoodIn wsX8_restore wsX80 := (dg_t (dg_r gw_wsX80))
theorem ggX8_restore_X8_no : GoodIn wsX8_restore wsX8_no := (dg_c 10 rfl rfl (dg_c 11 rfl rfl gl_X8_restore_X80))
set_option maxRecDepth 20000 in
theorem gX8_restore_X8_no : GoodIn wsX8_restore (wsV RX8 97 RX8 yX8_no wsX8_no) := goodIn_app (dg_c 6 rfl rfl (dg_c 7 rfl rfl (dg_c 8 rfl rfl (dg_c 9 rfl rfl dg_0)))) ggX8_restore_X8_no
set_option maxRecDepth 20000 in
theorem ggX8_restore_X8_all : GoodIn wsX8_restore wsX8_all := (dg_c 15 rfl rfl (dg_c 16 rfl rfl (dg_c 17 rfl rfl (dg_c 18 rfl rfl (dg_c 19 rfl rfl (dg_c 20 rfl rfl (dg_c 21 rfl rfl (dg_c 5 rfl rfl (dg_c 22 rfl rfl (dg_c 23 rfl rfl (dg_c 24 rfl rfl (dg_c 25 rfl rfl (dg_c 26 rfl rfl (dg_c 27 rfl rfl (dg_c 28 rfl rfl (dg_c 29 rfl rfl (dg_c 30 rfl rfl (dg_c 31 rfl rfl (dg_c 32 rfl rfl (dg_c 9 rfl rfl (dg_c 33 rfl rfl gl_X8_restore_X80)))))))))))))))))))))
set_option maxRecDepth 20000 in
theorem gX8_restore_X8_all : GoodIn wsX8_restore (wsV RX8 194 RX8 yX8_all wsX8_all) := goodIn_app (dg_c 12 rfl rfl (dg_c 13 rfl rfl (dg_c 14 rfl rfl (dg_c 9 rfl rfl dg_0)))) ggX8_restore_X8_all
theorem dX8_restore_0 : decode cX8_restore 0 = .ok (.aload_n 0, 1) := dq_42 dp_cX8_restore rfl
theorem dX8_restore_1 : decode cX8_restore 1 = .ok (.getfield 300, 3) := dq_180 dp_cX8_restore rfl
theorem dX8_restore_4 : decode cX8_restore 4 = .ok (.ifCond .ne 10, 3) := dq_154 (v := 10) dp_cX8_restore rfl rfl
theorem dX8_restore_7 : decode cX8_restore 7 = .ok (.aload_n 0, 1) := dq_42 dp_cX8_restore rfl
theorem dX8_restore_8 : decode cX8_restore 8 = .ok (.bipush (-6), 2) := dq_16 (v := 250) dp_cX8_restore rfl rfl
theorem dX8_restore_10 : decode cX8_restore 10 = .ok (.invokevirtual 97, 3) := dq_182 dp_cX8_restore rfl
theorem dX8_restore_13 : decode cX8_restore 13 = .ok (.ireturn, 1) := dq_172 dp_cX8_restore rfl
theorem dX8_restore_14 : decode cX8_restore 14 = .ok (.aload_n 0, 1) := dq_42 dp_cX8_restore rfl
theorem dX8_restore_15 : decode cX8_restore 15 = .ok (.aload_n 0, 1) := dq_42 dp_cX8_restore rfl
theorem dX8_restore_16 : decode cX8_restore 16 = .ok (.getfield 78, 3) := dq_180 dp_cX8_restore rfl
theorem dX8_restore_19 : decode cX8_restore 19 = .ok (.iconst 1, 1) := dq_4 dp_cX8_restore rfl
theorem dX8_restore_20 : decode cX8_restore 20 = .ok (.invokevirtual 194, 3) := dq_182 dp_cX8_restore rfl
theorem dX8_restore_23 : decode cX8_restore 23 = .ok (.iconst 0, 1) := dq_3 dp_cX8_restore rfl
theorem dX8_restore_24 : decode cX8_restore 24 = .ok (.istore_n 1, 1) := dq_60 dp_cX8_restore rfl
theorem dX8_restore_25 : decode cX8_restore 25 = .ok (.iload_n 1, 1) := dq_27 dp_cX8_restore rfl
theorem dX8_restore_26 : decode cX8_restore 26 = .ok (.bipush 8, 2) := dq_16 (v := 8) dp_cX8_restore rfl rfl
theorem dX8_restore_28 : decode cX8_restore 28 = .ok (.if_icmp .ge 39, 3) := dq_162 (v := 39) dp_cX8_restore rfl rfl
theorem dX8_restore_31 : decode cX8_restore 31 = .ok (.aload_n 0, 1) := dq_42 dp_cX8_restore rfl
theorem dX8_restore_32 : decode cX8_restore 32 = .ok (.getfield 47, 3) := dq_180 dp_cX8_restore rfl
theorem dX8_restore_35 : decode cX8_restore 35 = .ok (.iload_n 1, 1) := dq_27 dp_cX8_restore rfl
theorem dX8_restore_36 : decode cX8_restore 36 = .ok (.iaload, 1) := dq_46 dp_cX8_restore rfl
theorem dX8_restore_37 : decode cX8_restore 37 = .ok (.iconst 2, 1) := dq_5 dp_cX8_restore rfl
theorem dX8_restore_38 : decode cX8_restore 38 = .ok (.if_icmp .ne 23, 3) := dq_160 (v := 23) dp_cX8_restore rfl rfl
theorem dX8_restore_41 : decode cX8_restore 41 = .ok (.aload_n 0, 1) := dq_42 dp_cX8_restore rfl
theorem dX8_restore_42 : decode cX8_restore 42 = .ok (.getfield 56, 3) := dq_180 dp_cX8_restore rfl
theorem dX8_restore_45 : decode cX8_restore 45 = .ok (.iload_n 1, 1) := dq_27 dp_cX8_restore rfl
theorem dX8_restore_46 : decode cX8_restore 46 = .ok (.iaload, 1) := dq_46 dp_cX8_restore rfl
theorem dX8_restore_47 : decode cX8_restore 47 = .ok (.aload_n 0, 1) := dq_42 dp_cX8_restore rfl
theorem dX8_restore_48 : decode cX8_restore 48 = .ok (.getfield 90, 3) := dq_180 dp_cX8_restore rfl
theorem dX8_restore_51 : decode cX8_restore 51 = .ok (.if_icmp .lt 10, 3) := dq_161 (v := 10) dp_cX8_restore rfl rfl
theorem dX8_restore_54 : decode cX8_restore 54 = .ok (.aload_n 0, 1) := dq_42 dp_cX8_restore rfl
theorem dX8_restore_55 : decode cX8_restore 55 = .ok (.getfield 47, 3) := dq_180 dp_cX8_restore rfl
theorem dX8_restore_58 : decode cX8_restore 58 = .ok (.iload_n 1, 1) := dq_27 dp_cX8_restore rfl
theorem dX8_restore_59 : decode cX8_restore 59 = .ok (.iconst 0, 1) := dq_3 dp_cX8_restore rfl
theorem dX8_restore_60 : decode cX8_restore 60 = .ok (.iastore, 1) := dq_79 dp_cX8_restore rfl
theorem dX8_restore_61 : decode cX8_restore 61 = .ok (.iinc 1 1, 3) := dq_132 (v := 1) dp_cX8_restore rfl (by decide) rfl
theorem dX8_restore_64 : decode cX8_restore 64 = .ok (.goto (-39), 3) := dq_167 (v := 65497) dp_cX8_restore rfl rfl
theorem dX8_restore_67 : decode cX8_restore 67 = .ok (.aload_n 0, 1) := dq_42 dp_cX8_restore rfl
theorem dX8_restore_68 : decode cX8_restore 68 = .ok (.getfield 90, 3) := dq_180 dp_cX8_restore rfl
theorem dX8_restore_71 : decode cX8_restore 71 = .ok (.ireturn, 1) := dq_172 dp_cX8_restore rfl
end
section
theorem gl_X8_word_X80 : GoodIn wsX8_word wsX80 := (dg_t (dg_t (dg_t (dg_t (dg_t (dg_t (dg_t gw_wsX80)))))))
theorem hi_X8_word_8 : ∀ w ∈ u_ws RX8 TX8 38, w ∈ wsX8_word := fun w h => (gl_X8_word_X80 w h).1
end
section
theorem hi_X8_item_8 : ∀ w ∈ u_ws RX8 TX8 38, w ∈ wsX8_item := fun w h => (gl_X8_item_X80 w h).1
end
section
set_option maxHeartbeats 4000000 in
set_option maxRecDepth 100000 in
theorem c_M_carf_8_0 (l : Launch) (D : va_G) (cI cJ cZ cP cS : ClassId) (po : zPool) (m0 of_ to_ : Nat) (fo ft : Nat → Int32)  (hpz : Nat) : Met l yX8_carries wsX8_carries ({ frames := 0, cells := 0, slots := 0, locals := 0 }) (va_Pc [.ref m0, .ref of_, .int 8, .ref to_, .int 0, .int 0] (zW D (zKT cI cJ cZ cP cS) po [(of_, .inl (cI, 8, .inl fo)), (to_, .inl (cI, 130, .inl ft))] hpz)) (va_Qi (fun (r : Int32) (ft2 : (Nat → Int32)) => ((∀ j : Nat, ft2 j = zCar fo ft 0 8 j)) ∧ (r = 8)) (zB D [(of_, .inl (cI, 8, .inl fo)), (to_, .inl (cI, 130, .inl ft))] hpz (fun (ft2 : Nat → Int32) => [(of_, .inl (cI, 8, .inl fo)), (to_, .inl (cI, 130, .inl ft2))])) (va_A [(of_, .inl (cI, 8, .inl fo)), (to_, .inl (cI, 130, .inl ft))] hpz)) 0 0 (va_A [(of_, .inl (cI, 8, .inl fo)), (to_, .inl (cI, 130, .inl ft))] hpz) := by
  refine Met.ofW (cc := cX8_carries) (maxL := 7) (ret := (some .int)) (by decide) rfl ?_
  intro p e s m args below meth c s₁ B hml hv
  obtain ⟨rfl, hsz, hP, hK, hD0, hN, hZ⟩ := hv
  have hx := B.exec
  have hb := B.bytes
  have hr := B.returns
  have hts := atoms_spec (ws := wsX8_carries) B.pre
  have hown : s.vm.findClass RX8 = some m.cls := findClass_of_methodNamed B.named
  have hlocks := B.notSynchronized
  subst hsz
  have hD := hD0.self (sz := s.heap.size)
  have hA := zA_of hD
  have hl := lv_entry ([.ref m0, .ref of_, .int 8, .ref to_, .int 0, .int 0]) (n := 7) (Nat.le_of_ble_eq_true rfl)
  rw [lg_entry_eq]
  generalize (lg_sl ([.ref m0, .ref of_, .int 8, .ref to_, .int 0, .int 0]) ++ List.replicate (7 - (lg_sl ([.ref m0, .ref of_, .int 8, .ref to_, .int 0, .int 0])).length) Slot.unset).toArray = ls at hl ⊢
  replace hl : lv_has ls 7 [(0, .ref m0), (1, .ref of_), (2, .int 8), (3, .ref to_), (4, .int 0), (5, .int 0)] := hl
  refine zw_begin hP hD (fun H locs hP1 hS => ?_)
  clear hP
  have hP := hP1
  clear hP1
  refine lv_iconst (v := 0) hx hb dX8_carries_0 (by decide) ?_
  refine lv_istore (lv' := [(6, .int 0), (0, .ref m0), (1, .ref of_), (2, .int 8), (3, .ref to_), (4, .int 0), (5, .int 0)]) hx hb dX8_carries_1 hl (by decide) rfl (fun ls hl => ?_)
  obtain ⟨i_3, hi_3⟩ : ∃ i : Int32, i = 0 := ⟨_, rfl⟩
  replace hl : lv_has ls 7 [(6, .int i_3), (0, .ref m0), (1, .ref of_), (2, .int 8), (3, .ref to_), (4, .int 0), (5, .int 0)] := by rw [hi_3]; exact lv_sub hl [0, 1, 2, 3, 4, 5, 6] rfl
  have h1i_3 : i_3.toInt = 0 := by rw [hi_3]; decide
  obtain ⟨nfu, hni_3⟩ : ∃ nq9 : Nat, 8 ≤ i_3.toInt + (nq9 : Int) := ⟨((8 : Int) - 0).toNat, by omega⟩
  have hloi_3 : 0 ≤ i_3.toInt := by omega
  obtain ⟨g_1, hg_1⟩ : ∃ g : Nat → Int32, g = ft := ⟨_, rfl⟩
  replace hP : va_P D vwCl [(of_, .inl (cI, 8, .inl fo)), (to_, .inl (cI, 130, .inl g_1))] H := by rw [hg_1]; exact hP
  replace hD : va_D (va_A [(of_, .inl (cI, 8, .inl fo)), (to_, .inl (cI, 130, .inl ft))] s.heap.size) [(of_, .inl (cI, 8, .inl fo)), (to_, .inl (cI, 130, .inl g_1))] := by rw [hg_1]; exact hD
  have hvi_3_0 : (∀ j : Nat, g_1 j = zCar fo ft 0 i_3.toInt.toNat j) := by
    (try rw [hi_3]); (try rw [hg_1]); (intro j; unfold zCar; rw [if_neg (by have h8 : (0 : Int32).toInt.toNat = 0 := (by decide); omega)])
  have hvi_3_1 : i_3.toInt ≤ 8 := by
    (try rw [hi_3]); (try rw [hg_1]); first | omega | decide
  clear h1i_3 hi_3 hg_1
  skip
  revert hni_3
  revert hloi_3
  revert hvi_3_1
  revert hvi_3_0
  revert hl
  revert hS
  revert hD
  revert hP
  revert ls
  revert locs
  revert H
  revert g_1
  revert i_3
  induction nfu with
  | zero =>
    intro i_3 g_1 H locs ls hP hD hS hl hvi_3_0 hvi_3_1 hloi_3 hni_3
    have hzi_3 : 8 ≤ i_3.toInt := by omega
    refine lv_iload hx hb dX8_carries_3 (lv_at hl 0 rfl) ?_
    refine lv_iload_n hx hb dX8_carries_5 rfl (lv_at hl 3 rfl) ?_
    refine lv_icmp_ge (tgt := 45) hx hb dX8_carries_6 (by decide) (fun c_2 => ?_) (fun c_2 => ?_)
    · have fc_2 : 8 ≤ i_3.toInt := zf_le c_2 (by decide) rfl
      refine lv_iload hx hb dX8_carries_45 (lv_at hl 5 rfl) ?_
      refine lv_iload_n hx hb dX8_carries_47 rfl (lv_at hl 3 rfl) ?_
      refine lv_iadd hx hb dX8_carries_48 ?_
      refine lv_topi (fun y_3 ey_3 => ?_)
      obtain rfl : y_3 = 8 := ey_3.trans (by decide)
      exact W.iret (v := 8) hx hb hr (fun t ht hW => ⟨⟨8, g_1, rfl, ⟨(show (∀ j : Nat, g_1 j = zCar fo ft 0 8 j) from by (intro j; have h8 := hvi_3_0 j; rw [show i_3.toInt.toNat = 8 from by omega] at h8; exact h8)), rfl⟩, zRet ht hP hD [0, 1] (by decide) rfl⟩, hS.F ht⟩) hS.2.2 dX8_carries_49
    · exfalso; have fc_2 : i_3.toInt < 8 := zf_nle c_2 (by decide) rfl; omega
  | succ nfu ih =>
    intro i_3 g_1 H locs ls hP hD hS hl hvi_3_0 hvi_3_1 hloi_3 hni_3
    refine lv_iload hx hb dX8_carries_3 (lv_at hl 0 rfl) ?_
    refine lv_iload_n hx hb dX8_carries_5 rfl (lv_at hl 3 rfl) ?_
    refine lv_icmp_ge (tgt := 45) hx hb dX8_carries_6 (by decide) (fun c_4 => ?_) (fun c_4 => ?_)
    · have fc_4 : 8 ≤ i_3.toInt := zf_le c_4 (by decide) rfl
      refine lv_iload hx hb dX8_carries_45 (lv_at hl 5 rfl) ?_
      refine lv_iload_n hx hb dX8_carries_47 rfl (lv_at hl 3 rfl) ?_
      refine lv_iadd hx hb dX8_carries_48 ?_
      refine lv_topi (fun y_5 ey_5 => ?_)
      obtain rfl : y_5 = 8 := ey_5.trans (by decide)
      exact W.iret (v := 8) hx hb hr (fun t ht hW => ⟨⟨8, g_1, rfl, ⟨(show (∀ j : Nat, g_1 j = zCar fo ft 0 8 j) from by (intro j; have h8 := hvi_3_0 j; rw [show i_3.toInt.toNat = 8 from by omega] at h8; exact h8)), rfl⟩, zRet ht hP hD [0, 1] (by decide) rfl⟩, hS.F ht⟩) hS.2.2 dX8_carries_49
    · have fc_4 : i_3.toInt < 8 := zf_nle c_4 (by decide) rfl
      refine lv_iload hx hb dX8_carries_9 (lv_at hl 6 rfl) ?_
      refine lv_if_eq (tgt := 28) hx hb dX8_carries_11 (by decide) (fun c_6 => ?_) (fun c_6 => ?_)
      · refine lv_aload_n hx hb dX8_carries_28 rfl (lv_at hl 4 rfl) ?_
        refine lv_iload hx hb dX8_carries_29 (lv_at hl 5 rfl) ?_
        refine lv_iload hx hb dX8_carries_31 (lv_at hl 0 rfl) ?_
        refine lv_iadd hx hb dX8_carries_33 ?_
        refine lv_topi (fun x_7 ex_7 => ?_)
        have qx_7 : x_7.toInt = 0 + i_3.toInt := by rw [ex_7]; exact zf_add (by decide) rfl (by omega) (by omega)
        refine lv_aload_n hx hb dX8_carries_34 rfl (lv_at hl 2 rfl) ?_
        refine lv_iload hx hb dX8_carries_35 (lv_at hl 0 rfl) ?_
        refine va_iald hx hb hK hP 0 0 rfl rfl (zf_in (by omega) (by omega)) dX8_carries_37 ?_
        refine lv_topi (fun x_8 ex_8 => ?_)
        refine va_iast hx hb hK hP hD hS 1 0 rfl rfl (zf_in (by omega) (by omega)) dX8_carries_38 (fun H locs hP hD hS => ?_)
        have h9R := zRe (ws' := [(of_, .inl (cI, 8, .inl fo)), (to_, .inl (cI, 130, .inl (upd g_1 x_7.toNatClampNeg x_8)))]) hP hD rfl
        clear hP hD
        obtain ⟨hP, hD⟩ := h9R
        obtain ⟨x_9, ex_9⟩ : ∃ y : Int32, y = i_3 + 1 := ⟨_, rfl⟩
        have qx_9 : x_9.toInt = i_3.toInt + 1 := dw_incK ex_9 fc_4 (by decide)
        refine lv_iinc (v := x_9) (lv' := [(6, .int x_9), (0, .ref m0), (1, .ref of_), (2, .int 8), (3, .ref to_), (4, .int 0), (5, .int 0)]) hx hb dX8_carries_39 hl (k := 0) rfl ex_9.symm (by decide) rfl (fun ls hl => ?_)
        refine lv_goto (tgt := 3) hx hb dX8_carries_42 (by decide) ?_
        exact ih x_9 ((upd g_1 x_7.toNatClampNeg x_8)) _ _ _ (hP.sub [0, 1] rfl) (hD.sub [0, 1] (by decide) rfl) hS (lv_sub hl [0, 1, 2, 3, 4, 5, 6] rfl) (show (∀ j : Nat, (upd g_1 x_7.toNatClampNeg x_8) j = zCar fo ft 0 x_9.toInt.toNat j) from by (intro j; have h8 : x_7.toNatClampNeg = 0 + i_3.toInt.toNat := (by (show x_7.toInt.toNat = _; omega)); have h7 := hvi_3_0 j; simp only [upd]; unfold zCar at h7 ⊢; exact (Classical.em (j = x_7.toNatClampNeg)).elim (fun e9 => by (rw [if_pos e9, if_pos (by omega), ex_8]; congr 1; (show i_3.toInt.toNat = _; omega))) (fun e9 => by (rw [if_neg e9, h7]; exact (Classical.em (0 ≤ j ∧ j < 0 + i_3.toInt.toNat)).elim (fun h6 => by rw [if_pos h6, if_pos (by omega)]) (fun h6 => by rw [if_neg h6, if_neg (by omega)]))))) (show x_9.toInt ≤ 8 from by omega) (dw_lo hloi_3 qx_9) (dw_hn hni_3 qx_9)
      · exact absurd c_6 (by decide)
set_option maxHeartbeats 4000000 in
set_option maxRecDepth 100000 in
theorem c_M_carb_8_0 (l : Launch) (D : va_G) (cI cJ cZ cP cS : ClassId) (po : zPool) (m0 of_ to_ : Nat) (fo ft : Nat → Int32) (hto : ∀ j : Nat, j < 8 → 0 ≤ (ft (0 + j)).toInt ∧ (ft (0 + j)).toInt ≤ 6) (hp_fo : zRg fo (0) 6) (hpz : Nat) : Met l yX8_carries wsX8_carries ({ frames := 0, cells := 0, slots := 0, locals := 0 }) (va_Pc [.ref m0, .ref of_, .int 8, .ref to_, .int 0, .int 1] (zW D (zKT cI cJ cZ cP cS) po [(of_, .inl (cI, 8, .inl fo)), (to_, .inl (cI, 130, .inl ft))] hpz)) (va_Qi (fun (r : Int32) (fo2 : (Nat → Int32)) => zRg fo2 (0) 6 ∧ ((∀ j : Nat, fo2 j = zCab ft fo 0 8 j)) ∧ (r = 8)) (zB D [(of_, .inl (cI, 8, .inl fo)), (to_, .inl (cI, 130, .inl ft))] hpz (fun (fo2 : Nat → Int32) => [(of_, .inl (cI, 8, .inl fo2)), (to_, .inl (cI, 130, .inl ft))])) (va_A [(of_, .inl (cI, 8, .inl fo)), (to_, .inl (cI, 130, .inl ft))] hpz)) 0 0 (va_A [(of_, .inl (cI, 8, .inl fo)), (to_, .inl (cI, 130, .inl ft))] hpz) := by
  refine Met.ofW (cc := cX8_carries) (maxL := 7) (ret := (some .int)) (by decide) rfl ?_
  intro p e s m args below meth c s₁ B hml hv
  obtain ⟨rfl, hsz, hP, hK, hD0, hN, hZ⟩ := hv
  have hx := B.exec
  have hb := B.bytes
  have hr := B.returns
  have hts := atoms_spec (ws := wsX8_carries) B.pre
  have hown : s.vm.findClass RX8 = some m.cls := findClass_of_methodNamed B.named
  have hlocks := B.notSynchronized
  subst hsz
  have hD := hD0.self (sz := s.heap.size)
  have hA := zA_of hD
  have hl := lv_entry ([.ref m0, .ref of_, .int 8, .ref to_, .int 0, .int 1]) (n := 7) (Nat.le_of_ble_eq_true rfl)
  rw [lg_entry_eq]
  generalize (lg_sl ([.ref m0, .ref of_, .int 8, .ref to_, .int 0, .int 1]) ++ List.replicate (7 - (lg_sl ([.ref m0, .ref of_, .int 8, .ref to_, .int 0, .int 1])).length) Slot.unset).toArray = ls at hl ⊢
  replace hl : lv_has ls 7 [(0, .ref m0), (1, .ref of_), (2, .int 8), (3, .ref to_), (4, .int 0), (5, .int 1)] := hl
  refine zw_begin hP hD (fun H locs hP1 hS => ?_)
  clear hP
  have hP := hP1
  clear hP1
  refine lv_iconst (v := 0) hx hb dX8_carries_0 (by decide) ?_
  refine lv_istore (lv' := [(6, .int 0), (0, .ref m0), (1, .ref of_), (2, .int 8), (3, .ref to_), (4, .int 0), (5, .int 1)]) hx hb dX8_carries_1 hl (by decide) rfl (fun ls hl => ?_)
  obtain ⟨i_3, hi_3⟩ : ∃ i : Int32, i = 0 := ⟨_, rfl⟩
  replace hl : lv_has ls 7 [(6, .int i_3), (0, .ref m0), (1, .ref of_), (2, .int 8), (3, .ref to_), (4, .int 0), (5, .int 1)] := by rw [hi_3]; exact lv_sub hl [0, 1, 2, 3, 4, 5, 6] rfl
  have h1i_3 : i_3.toInt = 0 := by rw [hi_3]; decide
  obtain ⟨nfu, hni_3⟩ : ∃ nq9 : Nat, 8 ≤ i_3.toInt + (nq9 : Int) := ⟨((8 : Int) - 0).toNat, by omega⟩
  have hloi_3 : 0 ≤ i_3.toInt := by omega
  obtain ⟨g_1, hg_1⟩ : ∃ g : Nat → Int32, g = fo := ⟨_, rfl⟩
  have hpg_1 : zRg g_1 (0) 6 := by rw [hg_1]; exact hp_fo
  replace hP : va_P D vwCl [(of_, .inl (cI, 8, .inl g_1)), (to_, .inl (cI, 130, .inl ft))] H := by rw [hg_1]; exact hP
  replace hD : va_D (va_A [(of_, .inl (cI, 8, .inl fo)), (to_, .inl (cI, 130, .inl ft))] s.heap.size) [(of_, .inl (cI, 8, .inl g_1)), (to_, .inl (cI, 130, .inl ft))] := by rw [hg_1]; exact hD
  have hvi_3_0 : (∀ j : Nat, g_1 j = zCab ft fo 0 i_3.toInt.toNat j) := by
    (try rw [hi_3]); (try rw [hg_1]); (intro j; unfold zCab; rw [if_neg (by have h8 : (0 : Int32).toInt.toNat = 0 := (by decide); omega)])
  have hvi_3_1 : i_3.toInt ≤ 8 := by
    (try rw [hi_3]); (try rw [hg_1]); first | omega | decide
  clear h1i_3 hi_3 hg_1
  skip
  revert hni_3
  revert hloi_3
  revert hvi_3_1
  revert hvi_3_0
  revert hpg_1
  revert hl
  revert hS
  revert hD
  revert hP
  revert ls
  revert locs
  revert H
  revert g_1
  revert i_3
  induction nfu with
  | zero =>
    intro i_3 g_1 H locs ls hP hD hS hl hpg_1 hvi_3_0 hvi_3_1 hloi_3 hni_3
    have hzi_3 : 8 ≤ i_3.toInt := by omega
    refine lv_iload hx hb dX8_carries_3 (lv_at hl 0 rfl) ?_
    refine lv_iload_n hx hb dX8_carries_5 rfl (lv_at hl 3 rfl) ?_
    refine lv_icmp_ge (tgt := 45) hx hb dX8_carries_6 (by decide) (fun c_2 => ?_) (fun c_2 => ?_)
    · have fc_2 : 8 ≤ i_3.toInt := zf_le c_2 (by decide) rfl
      refine lv_iload hx hb dX8_carries_45 (lv_at hl 5 rfl) ?_
      refine lv_iload_n hx hb dX8_carries_47 rfl (lv_at hl 3 rfl) ?_
      refine lv_iadd hx hb dX8_carries_48 ?_
      refine lv_topi (fun y_3 ey_3 => ?_)
      obtain rfl : y_3 = 8 := ey_3.trans (by decide)
      exact W.iret (v := 8) hx hb hr (fun t ht hW => ⟨⟨8, g_1, rfl, ⟨hpg_1, (show (∀ j : Nat, g_1 j = zCab ft fo 0 8 j) from by (intro j; have h8 := hvi_3_0 j; rw [show i_3.toInt.toNat = 8 from by omega] at h8; exact h8)), rfl⟩, zRet ht hP hD [0, 1] (by decide) rfl⟩, hS.F ht⟩) hS.2.2 dX8_carries_49
    · exfalso; have fc_2 : i_3.toInt < 8 := zf_nle c_2 (by decide) rfl; omega
  | succ nfu ih =>
    intro i_3 g_1 H locs ls hP hD hS hl hpg_1 hvi_3_0 hvi_3_1 hloi_3 hni_3
    refine lv_iload hx hb dX8_carries_3 (lv_at hl 0 rfl) ?_
    refine lv_iload_n hx hb dX8_carries_5 rfl (lv_at hl 3 rfl) ?_
    refine lv_icmp_ge (tgt := 45) hx hb dX8_carries_6 (by decide) (fun c_4 => ?_) (fun c_4 => ?_)
    · have fc_4 : 8 ≤ i_3.toInt := zf_le c_4 (by decide) rfl
      refine lv_iload hx hb dX8_carries_45 (lv_at hl 5 rfl) ?_
      refine lv_iload_n hx hb dX8_carries_47 rfl (lv_at hl 3 rfl) ?_
      refine lv_iadd hx hb dX8_carries_48 ?_
      refine lv_topi (fun y_5 ey_5 => ?_)
      obtain rfl : y_5 = 8 := ey_5.trans (by decide)
      exact W.iret (v := 8) hx hb hr (fun t ht hW => ⟨⟨8, g_1, rfl, ⟨hpg_1, (show (∀ j : Nat, g_1 j = zCab ft fo 0 8 j) from by (intro j; have h8 := hvi_3_0 j; rw [show i_3.toInt.toNat = 8 from by omega] at h8; exact h8)), rfl⟩, zRet ht hP hD [0, 1] (by decide) rfl⟩, hS.F ht⟩) hS.2.2 dX8_carries_49
    · have fc_4 : i_3.toInt < 8 := zf_nle c_4 (by decide) rfl
      refine lv_iload hx hb dX8_carries_9 (lv_at hl 6 rfl) ?_
      refine lv_if_eq (tgt := 28) hx hb dX8_carries_11 (by decide) (fun c_6 => ?_) (fun c_6 => ?_)
      · exact absurd c_6 (by decide)
      · refine lv_aload_n hx hb dX8_carries_14 rfl (lv_at hl 2 rfl) ?_
        refine lv_iload hx hb dX8_carries_15 (lv_at hl 0 rfl) ?_
        refine lv_aload_n hx hb dX8_carries_17 rfl (lv_at hl 4 rfl) ?_
        refine lv_iload hx hb dX8_carries_18 (lv_at hl 5 rfl) ?_
        refine lv_iload hx hb dX8_carries_20 (lv_at hl 0 rfl) ?_
        refine lv_iadd hx hb dX8_carries_22 ?_
        refine lv_topi (fun x_7 ex_7 => ?_)
        have qx_7 : x_7.toInt = 0 + i_3.toInt := by rw [ex_7]; exact zf_add (by decide) rfl (by omega) (by omega)
        refine va_iald hx hb hK hP 1 0 rfl rfl (zf_in (by omega) (by omega)) dX8_carries_23 ?_
        refine lv_topi (fun x_8 ex_8 => ?_)
        have bx_8 : 0 ≤ x_8.toInt ∧ x_8.toInt ≤ 6 := by rw [ex_8, show x_7.toNatClampNeg = 0 + i_3.toInt.toNat from by (show x_7.toInt.toNat = _; omega)]; exact hto _ (by omega)
        refine va_iast hx hb hK hP hD hS 0 0 rfl rfl (zf_in (by omega) (by omega)) dX8_carries_24 (fun H locs hP hD hS => ?_)
        have hpg_9 : zRg (upd g_1 i_3.toNatClampNeg x_8) (0) 6 := zRg_upd hpg_1 (by omega) (by omega)
        obtain ⟨g_9, hg_9⟩ : ∃ g : Nat → Int32, g = upd g_1 i_3.toNatClampNeg x_8 := ⟨_, rfl⟩
        rw [← hg_9] at hP hD hpg_9
        have h9R := zRe (ws' := [(of_, .inl (cI, 8, .inl g_9)), (to_, .inl (cI, 130, .inl ft))]) hP hD rfl
        clear hP hD
        obtain ⟨hP, hD⟩ := h9R
        refine lv_goto (tgt := 39) hx hb dX8_carries_25 (by decide) ?_
        obtain ⟨x_10, ex_10⟩ : ∃ y : Int32, y = i_3 + 1 := ⟨_, rfl⟩
        have qx_10 : x_10.toInt = i_3.toInt + 1 := dw_incK ex_10 fc_4 (by decide)
        refine lv_iinc (v := x_10) (lv' := [(6, .int x_10), (0, .ref m0), (1, .ref of_), (2, .int 8), (3, .ref to_), (4, .int 0), (5, .int 1)]) hx hb dX8_carries_39 hl (k := 0) rfl ex_10.symm (by decide) rfl (fun ls hl => ?_)
        refine lv_goto (tgt := 3) hx hb dX8_carries_42 (by decide) ?_
        exact ih x_10 (g_9) _ _ _ (hP.sub [0, 1] rfl) (hD.sub [0, 1] (by decide) rfl) hS (lv_sub hl [0, 1, 2, 3, 4, 5, 6] rfl) hpg_9 (show (∀ j : Nat, g_9 j = zCab ft fo 0 x_10.toInt.toNat j) from by (intro j; rw [hg_9]; have h8 : i_3.toNatClampNeg = i_3.toInt.toNat := rfl; have h7 := hvi_3_0 j; simp only [upd]; unfold zCab at h7 ⊢; exact (Classical.em (j = i_3.toNatClampNeg)).elim (fun e9 => by (rw [if_pos e9, if_pos (by omega), ex_8]; congr 1; (show x_7.toInt.toNat = _; omega))) (fun e9 => by (rw [if_neg e9, h7]; exact (Classical.em (j < i_3.toInt.toNat)).elim (fun h6 => by rw [if_pos h6, if_pos (by omega)]) (fun h6 => by rw [if_neg h6, if_neg (by omega)]))))) (show x_10.toInt ≤ 8 from by omega) (dw_lo hloi_3 qx_10) (dw_hn hni_3 qx_10)
set_option maxHeartbeats 4000000 in
set_option maxRecDepth 100000 in
theorem c_M_carf_8_8 (l : Launch) (D : va_G) (cI cJ cZ cP cS : ClassId) (po : zPool) (m0 of_ to_ : Nat) (fo ft : Nat → Int32)  (hpz : Nat) : Met l yX8_carries wsX8_carries ({ frames := 0, cells := 0, slots := 0, locals := 0 }) (va_Pc [.ref m0, .ref of_, .int 8, .ref to_, .int 8, .int 0] (zW D (zKT cI cJ cZ cP cS) po [(of_, .inl (cI, 8, .inl fo)), (to_, .inl (cI, 130, .inl ft))] hpz)) (va_Qi (fun (r : Int32) (ft2 : (Nat → Int32)) => ((∀ j : Nat, ft2 j = zCar fo ft 8 8 j)) ∧ (r = 16)) (zB D [(of_, .inl (cI, 8, .inl fo)), (to_, .inl (cI, 130, .inl ft))] hpz (fun (ft2 : Nat → Int32) => [(of_, .inl (cI, 8, .inl fo)), (to_, .inl (cI, 130, .inl ft2))])) (va_A [(of_, .inl (cI, 8, .inl fo)), (to_, .inl (cI, 130, .inl ft))] hpz)) 0 0 (va_A [(of_, .inl (cI, 8, .inl fo)), (to_, .inl (cI, 130, .inl ft))] hpz) := by
  refine Met.ofW (cc := cX8_carries) (maxL := 7) (ret := (some .int)) (by decide) rfl ?_
  intro p e s m args below meth c s₁ B hml hv
  obtain ⟨rfl, hsz, hP, hK, hD0, hN, hZ⟩ := hv
  have hx := B.exec
  have hb := B.bytes
  have hr := B.returns
  have hts := atoms_spec (ws := wsX8_carries) B.pre
  have hown : s.vm.findClass RX8 = some m.cls := findClass_of_methodNamed B.named
  have hlocks := B.notSynchronized
  subst hsz
  have hD := hD0.self (sz := s.heap.size)
  have hA := zA_of hD
  have hl := lv_entry ([.ref m0, .ref of_, .int 8, .ref to_, .int 8, .int 0]) (n := 7) (Nat.le_of_ble_eq_true rfl)
  rw [lg_entry_eq]
  generalize (lg_sl ([.ref m0, .ref of_, .int 8, .ref to_, .int 8, .int 0]) ++ List.replicate (7 - (lg_sl ([.ref m0, .ref of_, .int 8, .ref to_, .int 8, .int 0])).length) Slot.unset).toArray = ls at hl ⊢
  replace hl : lv_has ls 7 [(0, .ref m0), (1, .ref of_), (2, .int 8), (3, .ref to_), (4, .int 8), (5, .int 0)] := hl
  refine zw_begin hP hD (fun H locs hP1 hS => ?_)
  clear hP
  have hP := hP1
  clear hP1
  refine lv_iconst (v := 0) hx hb dX8_carries_0 (by decide) ?_
  refine lv_istore (lv' := [(6, .int 0), (0, .ref m0), (1, .ref of_), (2, .int 8), (3, .ref to_), (4, .int 8), (5, .int 0)]) hx hb dX8_carries_1 hl (by decide) rfl (fun ls hl => ?_)
  obtain ⟨i_3, hi_3⟩ : ∃ i : Int32, i = 0 := ⟨_, rfl⟩
  replace hl : lv_has ls 7 [(6, .int i_3), (0, .ref m0), (1, .ref of_), (2, .int 8), (3, .ref to_), (4, .int 8), (5, .int 0)] := by rw [hi_3]; exact lv_sub hl [0, 1, 2, 3, 4, 5, 6] rfl
  have h1i_3 : i_3.toInt = 0 := by rw [hi_3]; decide
  obtain ⟨nfu, hni_3⟩ : ∃ nq9 : Nat, 8 ≤ i_3.toInt + (nq9 : Int) := ⟨((8 : Int) - 0).toNat, by omega⟩
  have hloi_3 : 0 ≤ i_3.toInt := by omega
  obtain ⟨g_1, hg_1⟩ : ∃ g : Nat → Int32, g = ft := ⟨_, rfl⟩
  replace hP : va_P D vwCl [(of_, .inl (cI, 8, .inl fo)), (to_, .inl (cI, 130, .inl g_1))] H := by rw [hg_1]; exact hP
  replace hD : va_D (va_A [(of_, .inl (cI, 8, .inl fo)), (to_, .inl (cI, 130, .inl ft))] s.heap.size) [(of_, .inl (cI, 8, .inl fo)), (to_, .inl (cI, 130, .inl g_1))] := by rw [hg_1]; exact hD
  have hvi_3_0 : (∀ j : Nat, g_1 j = zCar fo ft 8 i_3.toInt.toNat j) := by
    (try rw [hi_3]); (try rw [hg_1]); (intro j; unfold zCar; rw [if_neg (by have h8 : (0 : Int32).toInt.toNat = 0 := (by decide); omega)])
  have hvi_3_1 : i_3.toInt ≤ 8 := by
    (try rw [hi_3]); (try rw [hg_1]); first | omega | decide
  clear h1i_3 hi_3 hg_1
  skip
  revert hni_3
  revert hloi_3
  revert hvi_3_1
  revert hvi_3_0
  revert hl
  revert hS
  revert hD
  revert hP
  revert ls
  revert locs
  revert H
  revert g_1
  revert i_3
  induction nfu with
  | zero =>
    intro i_3 g_1 H locs ls hP hD hS hl hvi_3_0 hvi_3_1 hloi_3 hni_3
    have hzi_3 : 8 ≤ i_3.toInt := by omega
    refine lv_iload hx hb dX8_carries_3 (lv_at hl 0 rfl) ?_
    refine lv_iload_n hx hb dX8_carries_5 rfl (lv_at hl 3 rfl) ?_
    refine lv_icmp_ge (tgt := 45) hx hb dX8_carries_6 (by decide) (fun c_2 => ?_) (fun c_2 => ?_)
    · have fc_2 : 8 ≤ i_3.toInt := zf_le c_2 (by decide) rfl
      refine lv_iload hx hb dX8_carries_45 (lv_at hl 5 rfl) ?_
      refine lv_iload_n hx hb dX8_carries_47 rfl (lv_at hl 3 rfl) ?_
      refine lv_iadd hx hb dX8_carries_48 ?_
      refine lv_topi (fun y_3 ey_3 => ?_)
      obtain rfl : y_3 = 16 := ey_3.trans (by decide)
      exact W.iret (v := 16) hx hb hr (fun t ht hW => ⟨⟨16, g_1, rfl, ⟨(show (∀ j : Nat, g_1 j = zCar fo ft 8 8 j) from by (intro j; have h8 := hvi_3_0 j; rw [show i_3.toInt.toNat = 8 from by omega] at h8; exact h8)), rfl⟩, zRet ht hP hD [0, 1] (by decide) rfl⟩, hS.F ht⟩) hS.2.2 dX8_carries_49
    · exfalso; have fc_2 : i_3.toInt < 8 := zf_nle c_2 (by decide) rfl; omega
  | succ nfu ih =>
    intro i_3 g_1 H locs ls hP hD hS hl hvi_3_0 hvi_3_1 hloi_3 hni_3
    refine lv_iload hx hb dX8_carries_3 (lv_at hl 0 rfl) ?_
    refine lv_iload_n hx hb dX8_carries_5 rfl (lv_at hl 3 rfl) ?_
    refine lv_icmp_ge (tgt := 45) hx hb dX8_carries_6 (by decide) (fun c_4 => ?_) (fun c_4 => ?_)
    · have fc_4 : 8 ≤ i_3.toInt := zf_le c_4 (by decide) rfl
      refine lv_iload hx hb dX8_carries_45 (lv_at hl 5 rfl) ?_
      refine lv_iload_n hx hb dX8_carries_47 rfl (lv_at hl 3 rfl) ?_
      refine lv_iadd hx hb dX8_carries_48 ?_
      refine lv_topi (fun y_5 ey_5 => ?_)
      obtain rfl : y_5 = 16 := ey_5.trans (by decide)
      exact W.iret (v := 16) hx hb hr (fun t ht hW => ⟨⟨16, g_1, rfl, ⟨(show (∀ j : Nat, g_1 j = zCar fo ft 8 8 j) from by (intro j; have h8 := hvi_3_0 j; rw [show i_3.toInt.toNat = 8 from by omega] at h8; exact h8)), rfl⟩, zRet ht hP hD [0, 1] (by decide) rfl⟩, hS.F ht⟩) hS.2.2 dX8_carries_49
    · have fc_4 : i_3.toInt < 8 := zf_nle c_4 (by decide) rfl
      refine lv_iload hx hb dX8_carries_9 (lv_at hl 6 rfl) ?_
      refine lv_if_eq (tgt := 28) hx hb dX8_carries_11 (by decide) (fun c_6 => ?_) (fun c_6 => ?_)
      · refine lv_aload_n hx hb dX8_carries_28 rfl (lv_at hl 4 rfl) ?_
        refine lv_iload hx hb dX8_carries_29 (lv_at hl 5 rfl) ?_
        refine lv_iload hx hb dX8_carries_31 (lv_at hl 0 rfl) ?_
        refine lv_iadd hx hb dX8_carries_33 ?_
        refine lv_topi (fun x_7 ex_7 => ?_)
        have qx_7 : x_7.toInt = 8 + i_3.toInt := by rw [ex_7]; exact zf_add (by decide) rfl (by omega) (by omega)
        refine lv_aload_n hx hb dX8_carries_34 rfl (lv_at hl 2 rfl) ?_
        refine lv_iload hx hb dX8_carries_35 (lv_at hl 0 rfl) ?_
        refine va_iald hx hb hK hP 0 0 rfl rfl (zf_in (by omega) (by omega)) dX8_carries_37 ?_
        refine lv_topi (fun x_8 ex_8 => ?_)
        refine va_iast hx hb hK hP hD hS 1 0 rfl rfl (zf_in (by omega) (by omega)) dX8_carries_38 (fun H locs hP hD hS => ?_)
        have h9R := zRe (ws' := [(of_, .inl (cI, 8, .inl fo)), (to_, .inl (cI, 130, .inl (upd g_1 x_7.toNatClampNeg x_8)))]) hP hD rfl
        clear hP hD
        obtain ⟨hP, hD⟩ := h9R
        obtain ⟨x_9, ex_9⟩ : ∃ y : Int32, y = i_3 + 1 := ⟨_, rfl⟩
        have qx_9 : x_9.toInt = i_3.toInt + 1 := dw_incK ex_9 fc_4 (by decide)
        refine lv_iinc (v := x_9) (lv' := [(6, .int x_9), (0, .ref m0), (1, .ref of_), (2, .int 8), (3, .ref to_), (4, .int 8), (5, .int 0)]) hx hb dX8_carries_39 hl (k := 0) rfl ex_9.symm (by decide) rfl (fun ls hl => ?_)
        refine lv_goto (tgt := 3) hx hb dX8_carries_42 (by decide) ?_
        exact ih x_9 ((upd g_1 x_7.toNatClampNeg x_8)) _ _ _ (hP.sub [0, 1] rfl) (hD.sub [0, 1] (by decide) rfl) hS (lv_sub hl [0, 1, 2, 3, 4, 5, 6] rfl) (show (∀ j : Nat, (upd g_1 x_7.toNatClampNeg x_8) j = zCar fo ft 8 x_9.toInt.toNat j) from by (intro j; have h8 : x_7.toNatClampNeg = 8 + i_3.toInt.toNat := (by (show x_7.toInt.toNat = _; omega)); have h7 := hvi_3_0 j; simp only [upd]; unfold zCar at h7 ⊢; exact (Classical.em (j = x_7.toNatClampNeg)).elim (fun e9 => by (rw [if_pos e9, if_pos (by omega), ex_8]; congr 1; (show i_3.toInt.toNat = _; omega))) (fun e9 => by (rw [if_neg e9, h7]; exact (Classical.em (8 ≤ j ∧ j < 8 + i_3.toInt.toNat)).elim (fun h6 => by rw [if_pos h6, if_pos (by omega)]) (fun h6 => by rw [if_neg h6, if_neg (by omega)]))))) (show x_9.toInt ≤ 8 from by omega) (dw_lo hloi_3 qx_9) (dw_hn hni_3 qx_9)
      · exact absurd c_6 (by decide)
set_option maxHeartbeats 4000000 in
set_option maxRecDepth 100000 in
theorem c_M_carb_8_8 (l : Launch) (D : va_G) (cI cJ cZ cP cS : ClassId) (po : zPool) (m0 of_ to_ : Nat) (fo ft : Nat → Int32) (hto : ∀ j : Nat, j < 8 → 0 ≤ (ft (8 + j)).toInt ∧ (ft (8 + j)).toInt ≤ 9) (hp_fo : zRg fo (0) 9) (hpz : Nat) : Met l yX8_carries wsX8_carries ({ frames := 0, cells := 0, slots := 0, locals := 0 }) (va_Pc [.ref m0, .ref of_, .int 8, .ref to_, .int 8, .int 1] (zW D (zKT cI cJ cZ cP cS) po [(of_, .inl (cI, 8, .inl fo)), (to_, .inl (cI, 130, .inl ft))] hpz)) (va_Qi (fun (r : Int32) (fo2 : (Nat → Int32)) => zRg fo2 (0) 9 ∧ ((∀ j : Nat, fo2 j = zCab ft fo 8 8 j)) ∧ (r = 16)) (zB D [(of_, .inl (cI, 8, .inl fo)), (to_, .inl (cI, 130, .inl ft))] hpz (fun (fo2 : Nat → Int32) => [(of_, .inl (cI, 8, .inl fo2)), (to_, .inl (cI, 130, .inl ft))])) (va_A [(of_, .inl (cI, 8, .inl fo)), (to_, .inl (cI, 130, .inl ft))] hpz)) 0 0 (va_A [(of_, .inl (cI, 8, .inl fo)), (to_, .inl (cI, 130, .inl ft))] hpz) := by
  refine Met.ofW (cc := cX8_carries) (maxL := 7) (ret := (some .int)) (by decide) rfl ?_
  intro p e s m args below meth c s₁ B hml hv
  obtain ⟨rfl, hsz, hP, hK, hD0, hN, hZ⟩ := hv
  have hx := B.exec
  have hb := B.bytes
  have hr := B.returns
  have hts := atoms_spec (ws := wsX8_carries) B.pre
  have hown : s.vm.findClass RX8 = some m.cls := findClass_of_methodNamed B.named
  have hlocks := B.notSynchronized
  subst hsz
  have hD := hD0.self (sz := s.heap.size)
  have hA := zA_of hD
  have hl := lv_entry ([.ref m0, .ref of_, .int 8, .ref to_, .int 8, .int 1]) (n := 7) (Nat.le_of_ble_eq_true rfl)
  rw [lg_entry_eq]
  generalize (lg_sl ([.ref m0, .ref of_, .int 8, .ref to_, .int 8, .int 1]) ++ List.replicate (7 - (lg_sl ([.ref m0, .ref of_, .int 8, .ref to_, .int 8, .int 1])).length) Slot.unset).toArray = ls at hl ⊢
  replace hl : lv_has ls 7 [(0, .ref m0), (1, .ref of_), (2, .int 8), (3, .ref to_), (4, .int 8), (5, .int 1)] := hl
  refine zw_begin hP hD (fun H locs hP1 hS => ?_)
  clear hP
  have hP := hP1
  clear hP1
  refine lv_iconst (v := 0) hx hb dX8_carries_0 (by decide) ?_
  refine lv_istore (lv' := [(6, .int 0), (0, .ref m0), (1, .ref of_), (2, .int 8), (3, .ref to_), (4, .int 8), (5, .int 1)]) hx hb dX8_carries_1 hl (by decide) rfl (fun ls hl => ?_)
  obtain ⟨i_3, hi_3⟩ : ∃ i : Int32, i = 0 := ⟨_, rfl⟩
  replace hl : lv_has ls 7 [(6, .int i_3), (0, .ref m0), (1, .ref of_), (2, .int 8), (3, .ref to_), (4, .int 8), (5, .int 1)] := by rw [hi_3]; exact lv_sub hl [0, 1, 2, 3, 4, 5, 6] rfl
  have h1i_3 : i_3.toInt = 0 := by rw [hi_3]; decide
  obtain ⟨nfu, hni_3⟩ : ∃ nq9 : Nat, 8 ≤ i_3.toInt + (nq9 : Int) := ⟨((8 : Int) - 0).toNat, by omega⟩
  have hloi_3 : 0 ≤ i_3.toInt := by omega
  obtain ⟨g_1, hg_1⟩ : ∃ g : Nat → Int32, g = fo := ⟨_, rfl⟩
  have hpg_1 : zRg g_1 (0) 9 := by rw [hg_1]; exact hp_fo
  replace hP : va_P D vwCl [(of_, .inl (cI, 8, .inl g_1)), (to_, .inl (cI, 130, .inl ft))] H := by rw [hg_1]; exact hP
  replace hD : va_D (va_A [(of_, .inl (cI, 8, .inl fo)), (to_, .inl (cI, 130, .inl ft))] s.heap.size) [(of_, .inl (cI, 8, .inl g_1)), (to_, .inl (cI, 130, .inl ft))] := by rw [hg_1]; exact hD
  have hvi_3_0 : (∀ j : Nat, g_1 j = zCab ft fo 8 i_3.toInt.toNat j) := by
    (try rw [hi_3]); (try rw [hg_1]); (intro j; unfold zCab; rw [if_neg (by have h8 : (0 : Int32).toInt.toNat = 0 := (by decide); omega)])
  have hvi_3_1 : i_3.toInt ≤ 8 := by
    (try rw [hi_3]); (try rw [hg_1]); first | omega | decide
  clear h1i_3 hi_3 hg_1
  skip
  revert hni_3
  revert hloi_3
  revert hvi_3_1
  revert hvi_3_0
  revert hpg_1
  revert hl
  revert hS
  revert hD
  revert hP
  revert ls
  revert locs
  revert H
  revert g_1
  revert i_3
  induction nfu with
  | zero =>
    intro i_3 g_1 H locs ls hP hD hS hl hpg_1 hvi_3_0 hvi_3_1 hloi_3 hni_3
    have hzi_3 : 8 ≤ i_3.toInt := by omega
    refine lv_iload hx hb dX8_carries_3 (lv_at hl 0 rfl) ?_
    refine lv_iload_n hx hb dX8_carries_5 rfl (lv_at hl 3 rfl) ?_
    refine lv_icmp_ge (tgt := 45) hx hb dX8_carries_6 (by decide) (fun c_2 => ?_) (fun c_2 => ?_)
    · have fc_2 : 8 ≤ i_3.toInt := zf_le c_2 (by decide) rfl
      refine lv_iload hx hb dX8_carries_45 (lv_at hl 5 rfl) ?_
      refine lv_iload_n hx hb dX8_carries_47 rfl (lv_at hl 3 rfl) ?_
      refine lv_iadd hx hb dX8_carries_48 ?_
      refine lv_topi (fun y_3 ey_3 => ?_)
      obtain rfl : y_3 = 16 := ey_3.trans (by decide)
      exact W.iret (v := 16) hx hb hr (fun t ht hW => ⟨⟨16, g_1, rfl, ⟨hpg_1, (show (∀ j : Nat, g_1 j = zCab ft fo 8 8 j) from by (intro j; have h8 := hvi_3_0 j; rw [show i_3.toInt.toNat = 8 from by omega] at h8; exact h8)), rfl⟩, zRet ht hP hD [0, 1] (by decide) rfl⟩, hS.F ht⟩) hS.2.2 dX8_carries_49
    · exfalso; have fc_2 : i_3.toInt < 8 := zf_nle c_2 (by decide) rfl; omega
  | succ nfu ih =>
    intro i_3 g_1 H locs ls hP hD hS hl hpg_1 hvi_3_0 hvi_3_1 hloi_3 hni_3
    refine lv_iload hx hb dX8_carries_3 (lv_at hl 0 rfl) ?_
    refine lv_iload_n hx hb dX8_carries_5 rfl (lv_at hl 3 rfl) ?_
    refine lv_icmp_ge (tgt := 45) hx hb dX8_carries_6 (by decide) (fun c_4 => ?_) (fun c_4 => ?_)
    · have fc_4 : 8 ≤ i_3.toInt := zf_le c_4 (by decide) rfl
      refine lv_iload hx hb dX8_carries_45 (lv_at hl 5 rfl) ?_
      refine lv_iload_n hx hb dX8_carries_47 rfl (lv_at hl 3 rfl) ?_
      refine lv_iadd hx hb dX8_carries_48 ?_
      refine lv_topi (fun y_5 ey_5 => ?_)
      obtain rfl : y_5 = 16 := ey_5.trans (by decide)
      exact W.iret (v := 16) hx hb hr (fun t ht hW => ⟨⟨16, g_1, rfl, ⟨hpg_1, (show (∀ j : Nat, g_1 j = zCab ft fo 8 8 j) from by (intro j; have h8 := hvi_3_0 j; rw [show i_3.toInt.toNat = 8 from by omega] at h8; exact h8)), rfl⟩, zRet ht hP hD [0, 1] (by decide) rfl⟩, hS.F ht⟩) hS.2.2 dX8_carries_49
    · have fc_4 : i_3.toInt < 8 := zf_nle c_4 (by decide) rfl
      refine lv_iload hx hb dX8_carries_9 (lv_at hl 6 rfl) ?_
      refine lv_if_eq (tgt := 28) hx hb dX8_carries_11 (by decide) (fun c_6 => ?_) (fun c_6 => ?_)
      · exact absurd c_6 (by decide)
      · refine lv_aload_n hx hb dX8_carries_14 rfl (lv_at hl 2 rfl) ?_
        refine lv_iload hx hb dX8_carries_15 (lv_at hl 0 rfl) ?_
        refine lv_aload_n hx hb dX8_carries_17 rfl (lv_at hl 4 rfl) ?_
        refine lv_iload hx hb dX8_carries_18 (lv_at hl 5 rfl) ?_
        refine lv_iload hx hb dX8_carries_20 (lv_at hl 0 rfl) ?_
        refine lv_iadd hx hb dX8_carries_22 ?_
        refine lv_topi (fun x_7 ex_7 => ?_)
        have qx_7 : x_7.toInt = 8 + i_3.toInt := by rw [ex_7]; exact zf_add (by decide) rfl (by omega) (by omega)
        refine va_iald hx hb hK hP 1 0 rfl rfl (zf_in (by omega) (by omega)) dX8_carries_23 ?_
        refine lv_topi (fun x_8 ex_8 => ?_)
        have bx_8 : 0 ≤ x_8.toInt ∧ x_8.toInt ≤ 9 := by rw [ex_8, show x_7.toNatClampNeg = 8 + i_3.toInt.toNat from by (show x_7.toInt.toNat = _; omega)]; exact hto _ (by omega)
        refine va_iast hx hb hK hP hD hS 0 0 rfl rfl (zf_in (by omega) (by omega)) dX8_carries_24 (fun H locs hP hD hS => ?_)
        have hpg_9 : zRg (upd g_1 i_3.toNatClampNeg x_8) (0) 9 := zRg_upd hpg_1 (by omega) (by omega)
        obtain ⟨g_9, hg_9⟩ : ∃ g : Nat → Int32, g = upd g_1 i_3.toNatClampNeg x_8 := ⟨_, rfl⟩
        rw [← hg_9] at hP hD hpg_9
        have h9R := zRe (ws' := [(of_, .inl (cI, 8, .inl g_9)), (to_, .inl (cI, 130, .inl ft))]) hP hD rfl
        clear hP hD
        obtain ⟨hP, hD⟩ := h9R
        refine lv_goto (tgt := 39) hx hb dX8_carries_25 (by decide) ?_
        obtain ⟨x_10, ex_10⟩ : ∃ y : Int32, y = i_3 + 1 := ⟨_, rfl⟩
        have qx_10 : x_10.toInt = i_3.toInt + 1 := dw_incK ex_10 fc_4 (by decide)
        refine lv_iinc (v := x_10) (lv' := [(6, .int x_10), (0, .ref m0), (1, .ref of_), (2, .int 8), (3, .ref to_), (4, .int 8), (5, .int 1)]) hx hb dX8_carries_39 hl (k := 0) rfl ex_10.symm (by decide) rfl (fun ls hl => ?_)
        refine lv_goto (tgt := 3) hx hb dX8_carries_42 (by decide) ?_
        exact ih x_10 (g_9) _ _ _ (hP.sub [0, 1] rfl) (hD.sub [0, 1] (by decide) rfl) hS (lv_sub hl [0, 1, 2, 3, 4, 5, 6] rfl) hpg_9 (show (∀ j : Nat, g_9 j = zCab ft fo 8 x_10.toInt.toNat j) from by (intro j; rw [hg_9]; have h8 : i_3.toNatClampNeg = i_3.toInt.toNat := rfl; have h7 := hvi_3_0 j; simp only [upd]; unfold zCab at h7 ⊢; exact (Classical.em (j = i_3.toNatClampNeg)).elim (fun e9 => by (rw [if_pos e9, if_pos (by omega), ex_8]; congr 1; (show x_7.toInt.toNat = _; omega))) (fun e9 => by (rw [if_neg e9, h7]; exact (Classical.em (j < i_3.toInt.toNat)).elim (fun h6 => by rw [if_pos h6, if_pos (by omega)]) (fun h6 => by rw [if_neg h6, if_neg (by omega)]))))) (show x_10.toInt ≤ 8 from by omega) (dw_lo hloi_3 qx_10) (dw_hn hni_3 qx_10)
set_option maxHeartbeats 4000000 in
set_option maxRecDepth 100000 in
theorem c_M_carf_8_16 (l : Launch) (D : va_G) (cI cJ cZ cP cS : ClassId) (po : zPool) (m0 of_ to_ : Nat) (fo ft : Nat → Int32)  (hpz : Nat) : Met l yX8_carries wsX8_carries ({ frames := 0, cells := 0, slots := 0, locals := 0 }) (va_Pc [.ref m0, .ref of_, .int 8, .ref to_, .int 16, .int 0] (zW D (zKT cI cJ cZ cP cS) po [(of_, .inl (cI, 8, .inl fo)), (to_, .inl (cI, 130, .inl ft))] hpz)) (va_Qi (fun (r : Int32) (ft2 : (Nat → Int32)) => ((∀ j : Nat, ft2 j = zCar fo ft 16 8 j)) ∧ (r = 24)) (zB D [(of_, .inl (cI, 8, .inl fo)), (to_, .inl (cI, 130, .inl ft))] hpz (fun (ft2 : Nat → Int32) => [(of_, .inl (cI, 8, .inl fo)), (to_, .inl (cI, 130, .inl ft2))])) (va_A [(of_, .inl (cI, 8, .inl fo)), (to_, .inl (cI, 130, .inl ft))] hpz)) 0 0 (va_A [(of_, .inl (cI, 8, .inl fo)), (to_, .inl (cI, 130, .inl ft))] hpz) := by
  refine Met.ofW (cc := cX8_carries) (maxL := 7) (ret := (some .int)) (by decide) rfl ?_
  intro p e s m args below meth c s₁ B hml hv
  obtain ⟨rfl, hsz, hP, hK, hD0, hN, hZ⟩ := hv
  have hx := B.exec
  have hb := B.bytes
  have hr := B.returns
  have hts := atoms_spec (ws := wsX8_carries) B.pre
  have hown : s.vm.findClass RX8 = some m.cls := findClass_of_methodNamed B.named
  have hlocks := B.notSynchronized
  subst hsz
  have hD := hD0.self (sz := s.heap.size)
  have hA := zA_of hD
  have hl := lv_entry ([.ref m0, .ref of_, .int 8, .ref to_, .int 16, .int 0]) (n := 7) (Nat.le_of_ble_eq_true rfl)
  rw [lg_entry_eq]
  generalize (lg_sl ([.ref m0, .ref of_, .int 8, .ref to_, .int 16, .int 0]) ++ List.replicate (7 - (lg_sl ([.ref m0, .ref of_, .int 8, .ref to_, .int 16, .int 0])).length) Slot.unset).toArray = ls at hl ⊢
  replace hl : lv_has ls 7 [(0, .ref m0), (1, .ref of_), (2, .int 8), (3, .ref to_), (4, .int 16), (5, .int 0)] := hl
  refine zw_begin hP hD (fun H locs hP1 hS => ?_)
  clear hP
  have hP := hP1
  clear hP1
  refine lv_iconst (v := 0) hx hb dX8_carries_0 (by decide) ?_
  refine lv_istore (lv' := [(6, .int 0), (0, .ref m0), (1, .ref of_), (2, .int 8), (3, .ref to_), (4, .int 16), (5, .int 0)]) hx hb dX8_carries_1 hl (by decide) rfl (fun ls hl => ?_)
  obtain ⟨i_3, hi_3⟩ : ∃ i : Int32, i = 0 := ⟨_, rfl⟩
  replace hl : lv_has ls 7 [(6, .int i_3), (0, .ref m0), (1, .ref of_), (2, .int 8), (3, .ref to_), (4, .int 16), (5, .int 0)] := by rw [hi_3]; exact lv_sub hl [0, 1, 2, 3, 4, 5, 6] rfl
  have h1i_3 : i_3.toInt = 0 := by rw [hi_3]; decide
  obtain ⟨nfu, hni_3⟩ : ∃ nq9 : Nat, 8 ≤ i_3.toInt + (nq9 : Int) := ⟨((8 : Int) - 0).toNat, by omega⟩
  have hloi_3 : 0 ≤ i_3.toInt := by omega
  obtain ⟨g_1, hg_1⟩ : ∃ g : Nat → Int32, g = ft := ⟨_, rfl⟩
  replace hP : va_P D vwCl [(of_, .inl (cI, 8, .inl fo)), (to_, .inl (cI, 130, .inl g_1))] H := by rw [hg_1]; exact hP
  replace hD : va_D (va_A [(of_, .inl (cI, 8, .inl fo)), (to_, .inl (cI, 130, .inl ft))] s.heap.size) [(of_, .inl (cI, 8, .inl fo)), (to_, .inl (cI, 130, .inl g_1))] := by rw [hg_1]; exact hD
  have hvi_3_0 : (∀ j : Nat, g_1 j = zCar fo ft 16 i_3.toInt.toNat j) := by
    (try rw [hi_3]); (try rw [hg_1]); (intro j; unfold zCar; rw [if_neg (by have h8 : (0 : Int32).toInt.toNat = 0 := (by decide); omega)])
  have hvi_3_1 : i_3.toInt ≤ 8 := by
    (try rw [hi_3]); (try rw [hg_1]); first | omega | decide
  clear h1i_3 hi_3 hg_1
  skip
  revert hni_3
  revert hloi_3
  revert hvi_3_1
  revert hvi_3_0
  revert hl
  revert hS
  revert hD
  revert hP
  revert ls
  revert locs
  revert H
  revert g_1
  revert i_3
  induction nfu with
  | zero =>
    intro i_3 g_1 H locs ls hP hD hS hl hvi_3_0 hvi_3_1 hloi_3 hni_3
    have hzi_3 : 8 ≤ i_3.toInt := by omega
    refine lv_iload hx hb dX8_carries_3 (lv_at hl 0 rfl) ?_
    refine lv_iload_n hx hb dX8_carries_5 rfl (lv_at hl 3 rfl) ?_
    refine lv_icmp_ge (tgt := 45) hx hb dX8_carries_6 (by decide) (fun c_2 => ?_) (fun c_2 => ?_)
    · have fc_2 : 8 ≤ i_3.toInt := zf_le c_2 (by decide) rfl
      refine lv_iload hx hb dX8_carries_45 (lv_at hl 5 rfl) ?_
      refine lv_iload_n hx hb dX8_carries_47 rfl (lv_at hl 3 rfl) ?_
      refine lv_iadd hx hb dX8_carries_48 ?_
      refine lv_topi (fun y_3 ey_3 => ?_)
      obtain rfl : y_3 = 24 := ey_3.trans (by decide)
      exact W.iret (v := 24) hx hb hr (fun t ht hW => ⟨⟨24, g_1, rfl, ⟨(show (∀ j : Nat, g_1 j = zCar fo ft 16 8 j) from by (intro j; have h8 := hvi_3_0 j; rw [show i_3.toInt.toNat = 8 from by omega] at h8; exact h8)), rfl⟩, zRet ht hP hD [0, 1] (by decide) rfl⟩, hS.F ht⟩) hS.2.2 dX8_carries_49
    · exfalso; have fc_2 : i_3.toInt < 8 := zf_nle c_2 (by decide) rfl; omega
  | succ nfu ih =>
    intro i_3 g_1 H locs ls hP hD hS hl hvi_3_0 hvi_3_1 hloi_3 hni_3
    refine lv_iload hx hb dX8_carries_3 (lv_at hl 0 rfl) ?_
    refine lv_iload_n hx hb dX8_carries_5 rfl (lv_at hl 3 rfl) ?_
    refine lv_icmp_ge (tgt := 45) hx hb dX8_carries_6 (by decide) (fun c_4 => ?_) (fun c_4 => ?_)
    · have fc_4 : 8 ≤ i_3.toInt := zf_le c_4 (by decide) rfl
      refine lv_iload hx hb dX8_carries_45 (lv_at hl 5 rfl) ?_
      refine lv_iload_n hx hb dX8_carries_47 rfl (lv_at hl 3 rfl) ?_
      refine lv_iadd hx hb dX8_carries_48 ?_
      refine lv_topi (fun y_5 ey_5 => ?_)
      obtain rfl : y_5 = 24 := ey_5.trans (by decide)
      exact W.iret (v := 24) hx hb hr (fun t ht hW => ⟨⟨24, g_1, rfl, ⟨(show (∀ j : Nat, g_1 j = zCar fo ft 16 8 j) from by (intro j; have h8 := hvi_3_0 j; rw [show i_3.toInt.toNat = 8 from by omega] at h8; exact h8)), rfl⟩, zRet ht hP hD [0, 1] (by decide) rfl⟩, hS.F ht⟩) hS.2.2 dX8_carries_49
    · have fc_4 : i_3.toInt < 8 := zf_nle c_4 (by decide) rfl
      refine lv_iload hx hb dX8_carries_9 (lv_at hl 6 rfl) ?_
      refine lv_if_eq (tgt := 28) hx hb dX8_carries_11 (by decide) (fun c_6 => ?_) (fun c_6 => ?_)
      · refine lv_aload_n hx hb dX8_carries_28 rfl (lv_at hl 4 rfl) ?_
        refine lv_iload hx hb dX8_carries_29 (lv_at hl 5 rfl) ?_
        refine lv_iload hx hb dX8_carries_31 (lv_at hl 0 rfl) ?_
        refine lv_iadd hx hb dX8_carries_33 ?_
        refine lv_topi (fun x_7 ex_7 => ?_)
        have qx_7 : x_7.toInt = 16 + i_3.toInt := by rw [ex_7]; exact zf_add (by decide) rfl (by omega) (by omega)
        refine lv_aload_n hx hb dX8_carries_34 rfl (lv_at hl 2 rfl) ?_
        refine lv_iload hx hb dX8_carries_35 (lv_at hl 0 rfl) ?_
        refine va_iald hx hb hK hP 0 0 rfl rfl (zf_in (by omega) (by omega)) dX8_carries_37 ?_
        refine lv_topi (fun x_8 ex_8 => ?_)
        refine va_iast hx hb hK hP hD hS 1 0 rfl rfl (zf_in (by omega) (by omega)) dX8_carries_38 (fun H locs hP hD hS => ?_)
        have h9R := zRe (ws' := [(of_, .inl (cI, 8, .inl fo)), (to_, .inl (cI, 130, .inl (upd g_1 x_7.toNatClampNeg x_8)))]) hP hD rfl
        clear hP hD
        obtain ⟨hP, hD⟩ := h9R
        obtain ⟨x_9, ex_9⟩ : ∃ y : Int32, y = i_3 + 1 := ⟨_, rfl⟩
        have qx_9 : x_9.toInt = i_3.toInt + 1 := dw_incK ex_9 fc_4 (by decide)
        refine lv_iinc (v := x_9) (lv' := [(6, .int x_9), (0, .ref m0), (1, .ref of_), (2, .int 8), (3, .ref to_), (4, .int 16), (5, .int 0)]) hx hb dX8_carries_39 hl (k := 0) rfl ex_9.symm (by decide) rfl (fun ls hl => ?_)
        refine lv_goto (tgt := 3) hx hb dX8_carries_42 (by decide) ?_
        exact ih x_9 ((upd g_1 x_7.toNatClampNeg x_8)) _ _ _ (hP.sub [0, 1] rfl) (hD.sub [0, 1] (by decide) rfl) hS (lv_sub hl [0, 1, 2, 3, 4, 5, 6] rfl) (show (∀ j : Nat, (upd g_1 x_7.toNatClampNeg x_8) j = zCar fo ft 16 x_9.toInt.toNat j) from by (intro j; have h8 : x_7.toNatClampNeg = 16 + i_3.toInt.toNat := (by (show x_7.toInt.toNat = _; omega)); have h7 := hvi_3_0 j; simp only [upd]; unfold zCar at h7 ⊢; exact (Classical.em (j = x_7.toNatClampNeg)).elim (fun e9 => by (rw [if_pos e9, if_pos (by omega), ex_8]; congr 1; (show i_3.toInt.toNat = _; omega))) (fun e9 => by (rw [if_neg e9, h7]; exact (Classical.em (16 ≤ j ∧ j < 16 + i_3.toInt.toNat)).elim (fun h6 => by rw [if_pos h6, if_pos (by omega)]) (fun h6 => by rw [if_neg h6, if_neg (by omega)]))))) (show x_9.toInt ≤ 8 from by omega) (dw_lo hloi_3 qx_9) (dw_hn hni_3 qx_9)
      · exact absurd c_6 (by decide)
set_option maxHeartbeats 4000000 in
set_option maxRecDepth 100000 in
theorem c_M_carb_8_16 (l : Launch) (D : va_G) (cI cJ cZ cP cS : ClassId) (po : zPool) (m0 of_ to_ : Nat) (fo ft : Nat → Int32) (hto : ∀ j : Nat, j < 8 → 0 ≤ (ft (16 + j)).toInt ∧ (ft (16 + j)).toInt ≤ 60) (hp_fo : zRg fo (0) 60) (hpz : Nat) : Met l yX8_carries wsX8_carries ({ frames := 0, cells := 0, slots := 0, locals := 0 }) (va_Pc [.ref m0, .ref of_, .int 8, .ref to_, .int 16, .int 1] (zW D (zKT cI cJ cZ cP cS) po [(of_, .inl (cI, 8, .inl fo)), (to_, .inl (cI, 130, .inl ft))] hpz)) (va_Qi (fun (r : Int32) (fo2 : (Nat → Int32)) => zRg fo2 (0) 60 ∧ ((∀ j : Nat, fo2 j = zCab ft fo 16 8 j)) ∧ (r = 24)) (zB D [(of_, .inl (cI, 8, .inl fo)), (to_, .inl (cI, 130, .inl ft))] hpz (fun (fo2 : Nat → Int32) => [(of_, .inl (cI, 8, .inl fo2)), (to_, .inl (cI, 130, .inl ft))])) (va_A [(of_, .inl (cI, 8, .inl fo)), (to_, .inl (cI, 130, .inl ft))] hpz)) 0 0 (va_A [(of_, .inl (cI, 8, .inl fo)), (to_, .inl (cI, 130, .inl ft))] hpz) := by
  refine Met.ofW (cc := cX8_carries) (maxL := 7) (ret := (some .int)) (by decide) rfl ?_
  intro p e s m args below meth c s₁ B hml hv
  obtain ⟨rfl, hsz, hP, hK, hD0, hN, hZ⟩ := hv
  have hx := B.exec
  have hb := B.bytes
  have hr := B.returns
  have hts := atoms_spec (ws := wsX8_carries) B.pre
  have hown : s.vm.findClass RX8 = some m.cls := findClass_of_methodNamed B.named
  have hlocks := B.notSynchronized
  subst hsz
  have hD := hD0.self (sz := s.heap.size)
  have hA := zA_of hD
  have hl := lv_entry ([.ref m0, .ref of_, .int 8, .ref to_, .int 16, .int 1]) (n := 7) (Nat.le_of_ble_eq_true rfl)
  rw [lg_entry_eq]
  generalize (lg_sl ([.ref m0, .ref of_, .int 8, .ref to_, .int 16, .int 1]) ++ List.replicate (7 - (lg_sl ([.ref m0, .ref of_, .int 8, .ref to_, .int 16, .int 1])).length) Slot.unset).toArray = ls at hl ⊢
  replace hl : lv_has ls 7 [(0, .ref m0), (1, .ref of_), (2, .int 8), (3, .ref to_), (4, .int 16), (5, .int 1)] := hl
  refine zw_begin hP hD (fun H locs hP1 hS => ?_)
  clear hP
  have hP := hP1
  clear hP1
  refine lv_iconst (v := 0) hx hb dX8_carries_0 (by decide) ?_
  refine lv_istore (lv' := [(6, .int 0), (0, .ref m0), (1, .ref of_), (2, .int 8), (3, .ref to_), (4, .int 16), (5, .int 1)]) hx hb dX8_carries_1 hl (by decide) rfl (fun ls hl => ?_)
  obtain ⟨i_3, hi_3⟩ : ∃ i : Int32, i = 0 := ⟨_, rfl⟩
  replace hl : lv_has ls 7 [(6, .int i_3), (0, .ref m0), (1, .ref of_), (2, .int 8), (3, .ref to_), (4, .int 16), (5, .int 1)] := by rw [hi_3]; exact lv_sub hl [0, 1, 2, 3, 4, 5, 6] rfl
  have h1i_3 : i_3.toInt = 0 := by rw [hi_3]; decide
  obtain ⟨nfu, hni_3⟩ : ∃ nq9 : Nat, 8 ≤ i_3.toInt + (nq9 : Int) := ⟨((8 : Int) - 0).toNat, by omega⟩
  have hloi_3 : 0 ≤ i_3.toInt := by omega
  obtain ⟨g_1, hg_1⟩ : ∃ g : Nat → Int32, g = fo := ⟨_, rfl⟩
  have hpg_1 : zRg g_1 (0) 60 := by rw [hg_1]; exact hp_fo
  replace hP : va_P D vwCl [(of_, .inl (cI, 8, .inl g_1)), (to_, .inl (cI, 130, .inl ft))] H := by rw [hg_1]; exact hP
  replace hD : va_D (va_A [(of_, .inl (cI, 8, .inl fo)), (to_, .inl (cI, 130, .inl ft))] s.heap.size) [(of_, .inl (cI, 8, .inl g_1)), (to_, .inl (cI, 130, .inl ft))] := by rw [hg_1]; exact hD
  have hvi_3_0 : (∀ j : Nat, g_1 j = zCab ft fo 16 i_3.toInt.toNat j) := by
    (try rw [hi_3]); (try rw [hg_1]); (intro j; unfold zCab; rw [if_neg (by have h8 : (0 : Int32).toInt.toNat = 0 := (by decide); omega)])
  have hvi_3_1 : i_3.toInt ≤ 8 := by
    (try rw [hi_3]); (try rw [hg_1]); first | omega | decide
  clear h1i_3 hi_3 hg_1
  skip
  revert hni_3
  revert hloi_3
  revert hvi_3_1
  revert hvi_3_0
  revert hpg_1
  revert hl
  revert hS
  revert hD
  revert hP
  revert ls
  revert locs
  revert H
  revert g_1
  revert i_3
  induction nfu with
  | zero =>
    intro i_3 g_1 H locs ls hP hD hS hl hpg_1 hvi_3_0 hvi_3_1 hloi_3 hni_3
    have hzi_3 : 8 ≤ i_3.toInt := by omega
    refine lv_iload hx hb dX8_carries_3 (lv_at hl 0 rfl) ?_
    refine lv_iload_n hx hb dX8_carries_5 rfl (lv_at hl 3 rfl) ?_
    refine lv_icmp_ge (tgt := 45) hx hb dX8_carries_6 (by decide) (fun c_2 => ?_) (fun c_2 => ?_)
    · have fc_2 : 8 ≤ i_3.toInt := zf_le c_2 (by decide) rfl
      refine lv_iload hx hb dX8_carries_45 (lv_at hl 5 rfl) ?_
      refine lv_iload_n hx hb dX8_carries_47 rfl (lv_at hl 3 rfl) ?_
      refine lv_iadd hx hb dX8_carries_48 ?_
      refine lv_topi (fun y_3 ey_3 => ?_)
      obtain rfl : y_3 = 24 := ey_3.trans (by decide)
      exact W.iret (v := 24) hx hb hr (fun t ht hW => ⟨⟨24, g_1, rfl, ⟨hpg_1, (show (∀ j : Nat, g_1 j = zCab ft fo 16 8 j) from by (intro j; have h8 := hvi_3_0 j; rw [show i_3.toInt.toNat = 8 from by omega] at h8; exact h8)), rfl⟩, zRet ht hP hD [0, 1] (by decide) rfl⟩, hS.F ht⟩) hS.2.2 dX8_carries_49
    · exfalso; have fc_2 : i_3.toInt < 8 := zf_nle c_2 (by decide) rfl; omega
  | succ nfu ih =>
    intro i_3 g_1 H locs ls hP hD hS hl hpg_1 hvi_3_0 hvi_3_1 hloi_3 hni_3
    refine lv_iload hx hb dX8_carries_3 (lv_at hl 0 rfl) ?_
    refine lv_iload_n hx hb dX8_carries_5 rfl (lv_at hl 3 rfl) ?_
    refine lv_icmp_ge (tgt := 45) hx hb dX8_carries_6 (by decide) (fun c_4 => ?_) (fun c_4 => ?_)
    · have fc_4 : 8 ≤ i_3.toInt := zf_le c_4 (by decide) rfl
      refine lv_iload hx hb dX8_carries_45 (lv_at hl 5 rfl) ?_
      refine lv_iload_n hx hb dX8_carries_47 rfl (lv_at hl 3 rfl) ?_
      refine lv_iadd hx hb dX8_carries_48 ?_
      refine lv_topi (fun y_5 ey_5 => ?_)
      obtain rfl : y_5 = 24 := ey_5.trans (by decide)
      exact W.iret (v := 24) hx hb hr (fun t ht hW => ⟨⟨24, g_1, rfl, ⟨hpg_1, (show (∀ j : Nat, g_1 j = zCab ft fo 16 8 j) from by (intro j; have h8 := hvi_3_0 j; rw [show i_3.toInt.toNat = 8 from by omega] at h8; exact h8)), rfl⟩, zRet ht hP hD [0, 1] (by decide) rfl⟩, hS.F ht⟩) hS.2.2 dX8_carries_49
    · have fc_4 : i_3.toInt < 8 := zf_nle c_4 (by decide) rfl
      refine lv_iload hx hb dX8_carries_9 (lv_at hl 6 rfl) ?_
      refine lv_if_eq (tgt := 28) hx hb dX8_carries_11 (by decide) (fun c_6 => ?_) (fun c_6 => ?_)
      · exact absurd c_6 (by decide)
      · refine lv_aload_n hx hb dX8_carries_14 rfl (lv_at hl 2 rfl) ?_
        refine lv_iload hx hb dX8_carries_15 (lv_at hl 0 rfl) ?_
        refine lv_aload_n hx hb dX8_carries_17 rfl (lv_at hl 4 rfl) ?_
        refine lv_iload hx hb dX8_carries_18 (lv_at hl 5 rfl) ?_
        refine lv_iload hx hb dX8_carries_20 (lv_at hl 0 rfl) ?_
        refine lv_iadd hx hb dX8_carries_22 ?_
        refine lv_topi (fun x_7 ex_7 => ?_)
        have qx_7 : x_7.toInt = 16 + i_3.toInt := by rw [ex_7]; exact zf_add (by decide) rfl (by omega) (by omega)
        refine va_iald hx hb hK hP 1 0 rfl rfl (zf_in (by omega) (by omega)) dX8_carries_23 ?_
        refine lv_topi (fun x_8 ex_8 => ?_)
        have bx_8 : 0 ≤ x_8.toInt ∧ x_8.toInt ≤ 60 := by rw [ex_8, show x_7.toNatClampNeg = 16 + i_3.toInt.toNat from by (show x_7.toInt.toNat = _; omega)]; exact hto _ (by omega)
        refine va_iast hx hb hK hP hD hS 0 0 rfl rfl (zf_in (by omega) (by omega)) dX8_carries_24 (fun H locs hP hD hS => ?_)
        have hpg_9 : zRg (upd g_1 i_3.toNatClampNeg x_8) (0) 60 := zRg_upd hpg_1 (by omega) (by omega)
        obtain ⟨g_9, hg_9⟩ : ∃ g : Nat → Int32, g = upd g_1 i_3.toNatClampNeg x_8 := ⟨_, rfl⟩
        rw [← hg_9] at hP hD hpg_9
        have h9R := zRe (ws' := [(of_, .inl (cI, 8, .inl g_9)), (to_, .inl (cI, 130, .inl ft))]) hP hD rfl
        clear hP hD
        obtain ⟨hP, hD⟩ := h9R
        refine lv_goto (tgt := 39) hx hb dX8_carries_25 (by decide) ?_
        obtain ⟨x_10, ex_10⟩ : ∃ y : Int32, y = i_3 + 1 := ⟨_, rfl⟩
        have qx_10 : x_10.toInt = i_3.toInt + 1 := dw_incK ex_10 fc_4 (by decide)
        refine lv_iinc (v := x_10) (lv' := [(6, .int x_10), (0, .ref m0), (1, .ref of_), (2, .int 8), (3, .ref to_), (4, .int 16), (5, .int 1)]) hx hb dX8_carries_39 hl (k := 0) rfl ex_10.symm (by decide) rfl (fun ls hl => ?_)
        refine lv_goto (tgt := 3) hx hb dX8_carries_42 (by decide) ?_
        exact ih x_10 (g_9) _ _ _ (hP.sub [0, 1] rfl) (hD.sub [0, 1] (by decide) rfl) hS (lv_sub hl [0, 1, 2, 3, 4, 5, 6] rfl) hpg_9 (show (∀ j : Nat, g_9 j = zCab ft fo 16 x_10.toInt.toNat j) from by (intro j; rw [hg_9]; have h8 : i_3.toNatClampNeg = i_3.toInt.toNat := rfl; have h7 := hvi_3_0 j; simp only [upd]; unfold zCab at h7 ⊢; exact (Classical.em (j = i_3.toNatClampNeg)).elim (fun e9 => by (rw [if_pos e9, if_pos (by omega), ex_8]; congr 1; (show x_7.toInt.toNat = _; omega))) (fun e9 => by (rw [if_neg e9, h7]; exact (Classical.em (j < i_3.toInt.toNat)).elim (fun h6 => by rw [if_pos h6, if_pos (by omega)]) (fun h6 => by rw [if_neg h6, if_neg (by omega)]))))) (show x_10.toInt ≤ 8 from by omega) (dw_lo hloi_3 qx_10) (dw_hn hni_3 qx_10)
set_option maxHeartbeats 4000000 in
set_option maxRecDepth 100000 in
theorem c_M_carf_40_24 (l : Launch) (D : va_G) (cI cJ cZ cP cS : ClassId) (po : zPool) (m0 of_ to_ : Nat) (fo ft : Nat → Int32)  (hpz : Nat) : Met l yX8_carries wsX8_carries ({ frames := 0, cells := 0, slots := 0, locals := 0 }) (va_Pc [.ref m0, .ref of_, .int 40, .ref to_, .int 24, .int 0] (zW D (zKT cI cJ cZ cP cS) po [(of_, .inl (cI, 40, .inl fo)), (to_, .inl (cI, 130, .inl ft))] hpz)) (va_Qi (fun (r : Int32) (ft2 : (Nat → Int32)) => ((∀ j : Nat, ft2 j = zCar fo ft 24 40 j)) ∧ (r = 64)) (zB D [(of_, .inl (cI, 40, .inl fo)), (to_, .inl (cI, 130, .inl ft))] hpz (fun (ft2 : Nat → Int32) => [(of_, .inl (cI, 40, .inl fo)), (to_, .inl (cI, 130, .inl ft2))])) (va_A [(of_, .inl (cI, 40, .inl fo)), (to_, .inl (cI, 130, .inl ft))] hpz)) 0 0 (va_A [(of_, .inl (cI, 40, .inl fo)), (to_, .inl (cI, 130, .inl ft))] hpz) := by
  refine Met.ofW (cc := cX8_carries) (maxL := 7) (ret := (some .int)) (by decide) rfl ?_
  intro p e s m args below meth c s₁ B hml hv
  obtain ⟨rfl, hsz, hP, hK, hD0, hN, hZ⟩ := hv
  have hx := B.exec
  have hb := B.bytes
  have hr := B.returns
  have hts := atoms_spec (ws := wsX8_carries) B.pre
  have hown : s.vm.findClass RX8 = some m.cls := findClass_of_methodNamed B.named
  have hlocks := B.notSynchronized
  subst hsz
  have hD := hD0.self (sz := s.heap.size)
  have hA := zA_of hD
  have hl := lv_entry ([.ref m0, .ref of_, .int 40, .ref to_, .int 24, .int 0]) (n := 7) (Nat.le_of_ble_eq_true rfl)
  rw [lg_entry_eq]
  generalize (lg_sl ([.ref m0, .ref of_, .int 40, .ref to_, .int 24, .int 0]) ++ List.replicate (7 - (lg_sl ([.ref m0, .ref of_, .int 40, .ref to_, .int 24, .int 0])).length) Slot.unset).toArray = ls at hl ⊢
  replace hl : lv_has ls 7 [(0, .ref m0), (1, .ref of_), (2, .int 40), (3, .ref to_), (4, .int 24), (5, .int 0)] := hl
  refine zw_begin hP hD (fun H locs hP1 hS => ?_)
  clear hP
  have hP := hP1
  clear hP1
  refine lv_iconst (v := 0) hx hb dX8_carries_0 (by decide) ?_
  refine lv_istore (lv' := [(6, .int 0), (0, .ref m0), (1, .ref of_), (2, .int 40), (3, .ref to_), (4, .int 24), (5, .int 0)]) hx hb dX8_carries_1 hl (by decide) rfl (fun ls hl => ?_)
  obtain ⟨i_3, hi_3⟩ : ∃ i : Int32, i = 0 := ⟨_, rfl⟩
  replace hl : lv_has ls 7 [(6, .int i_3), (0, .ref m0), (1, .ref of_), (2, .int 40), (3, .ref to_), (4, .int 24), (5, .int 0)] := by rw [hi_3]; exact lv_sub hl [0, 1, 2, 3, 4, 5, 6] rfl
  have h1i_3 : i_3.toInt = 0 := by rw [hi_3]; decide
  obtain ⟨nfu, hni_3⟩ : ∃ nq9 : Nat, 40 ≤ i_3.toInt + (nq9 : Int) := ⟨((40 : Int) - 0).toNat, by omega⟩
  have hloi_3 : 0 ≤ i_3.toInt := by omega
  obtain ⟨g_1, hg_1⟩ : ∃ g : Nat → Int32, g = ft := ⟨_, rfl⟩
  replace hP : va_P D vwCl [(of_, .inl (cI, 40, .inl fo)), (to_, .inl (cI, 130, .inl g_1))] H := by rw [hg_1]; exact hP
  replace hD : va_D (va_A [(of_, .inl (cI, 40, .inl fo)), (to_, .inl (cI, 130, .inl ft))] s.heap.size) [(of_, .inl (cI, 40, .inl fo)), (to_, .inl (cI, 130, .inl g_1))] := by rw [hg_1]; exact hD
  have hvi_3_0 : (∀ j : Nat, g_1 j = zCar fo ft 24 i_3.toInt.toNat j) := by
    (try rw [hi_3]); (try rw [hg_1]); (intro j; unfold zCar; rw [if_neg (by have h8 : (0 : Int32).toInt.toNat = 0 := (by decide); omega)])
  have hvi_3_1 : i_3.toInt ≤ 40 := by
    (try rw [hi_3]); (try rw [hg_1]); first | omega | decide
  clear h1i_3 hi_3 hg_1
  skip
  revert hni_3
  revert hloi_3
  revert hvi_3_1
  revert hvi_3_0
  revert hl
  revert hS
  revert hD
  revert hP
  revert ls
  revert locs
  revert H
  revert g_1
  revert i_3
  induction nfu with
  | zero =>
    intro i_3 g_1 H locs ls hP hD hS hl hvi_3_0 hvi_3_1 hloi_3 hni_3
    have hzi_3 : 40 ≤ i_3.toInt := by omega
    refine lv_iload hx hb dX8_carries_3 (lv_at hl 0 rfl) ?_
    refine lv_iload_n hx hb dX8_carries_5 rfl (lv_at hl 3 rfl) ?_
    refine lv_icmp_ge (tgt := 45) hx hb dX8_carries_6 (by decide) (fun c_2 => ?_) (fun c_2 => ?_)
    · have fc_2 : 40 ≤ i_3.toInt := zf_le c_2 (by decide) rfl
      refine lv_iload hx hb dX8_carries_45 (lv_at hl 5 rfl) ?_
      refine lv_iload_n hx hb dX8_carries_47 rfl (lv_at hl 3 rfl) ?_
      refine lv_iadd hx hb dX8_carries_48 ?_
      refine lv_topi (fun y_3 ey_3 => ?_)
      obtain rfl : y_3 = 64 := ey_3.trans (by decide)
      exact W.iret (v := 64) hx hb hr (fun t ht hW => ⟨⟨64, g_1, rfl, ⟨(show (∀ j : Nat, g_1 j = zCar fo ft 24 40 j) from by (intro j; have h8 := hvi_3_0 j; rw [show i_3.toInt.toNat = 40 from by omega] at h8; exact h8)), rfl⟩, zRet ht hP hD [0, 1] (by decide) rfl⟩, hS.F ht⟩) hS.2.2 dX8_carries_49
    · exfalso; have fc_2 : i_3.toInt < 40 := zf_nle c_2 (by decide) rfl; omega
  | succ nfu ih =>
    intro i_3 g_1 H locs ls hP hD hS hl hvi_3_0 hvi_3_1 hloi_3 hni_3
    refine lv_iload hx hb dX8_carries_3 (lv_at hl 0 rfl) ?_
    refine lv_iload_n hx hb dX8_carries_5 rfl (lv_at hl 3 rfl) ?_
    refine lv_icmp_ge (tgt := 45) hx hb dX8_carries_6 (by decide) (fun c_4 => ?_) (fun c_4 => ?_)
    · have fc_4 : 40 ≤ i_3.toInt := zf_le c_4 (by decide) rfl
      refine lv_iload hx hb dX8_carries_45 (lv_at hl 5 rfl) ?_
      refine lv_iload_n hx hb dX8_carries_47 rfl (lv_at hl 3 rfl) ?_
      refine lv_iadd hx hb dX8_carries_48 ?_
      refine lv_topi (fun y_5 ey_5 => ?_)
      obtain rfl : y_5 = 64 := ey_5.trans (by decide)
      exact W.iret (v := 64) hx hb hr (fun t ht hW => ⟨⟨64, g_1, rfl, ⟨(show (∀ j : Nat, g_1 j = zCar fo ft 24 40 j) from by (intro j; have h8 := hvi_3_0 j; rw [show i_3.toInt.toNat = 40 from by omega] at h8; exact h8)), rfl⟩, zRet ht hP hD [0, 1] (by decide) rfl⟩, hS.F ht⟩) hS.2.2 dX8_carries_49
    · have fc_4 : i_3.toInt < 40 := zf_nle c_4 (by decide) rfl
      refine lv_iload hx hb dX8_carries_9 (lv_at hl 6 rfl) ?_
      refine lv_if_eq (tgt := 28) hx hb dX8_carries_11 (by decide) (fun c_6 => ?_) (fun c_6 => ?_)
      · refine lv_aload_n hx hb dX8_carries_28 rfl (lv_at hl 4 rfl) ?_
        refine lv_iload hx hb dX8_carries_29 (lv_at hl 5 rfl) ?_
        refine lv_iload hx hb dX8_carries_31 (lv_at hl 0 rfl) ?_
        refine lv_iadd hx hb dX8_carries_33 ?_
        refine lv_topi (fun x_7 ex_7 => ?_)
        have qx_7 : x_7.toInt = 24 + i_3.toInt := by rw [ex_7]; exact zf_add (by decide) rfl (by omega) (by omega)
        refine lv_aload_n hx hb dX8_carries_34 rfl (lv_at hl 2 rfl) ?_
        refine lv_iload hx hb dX8_carries_35 (lv_at hl 0 rfl) ?_
        refine va_iald hx hb hK hP 0 0 rfl rfl (zf_in (by omega) (by omega)) dX8_carries_37 ?_
        refine lv_topi (fun x_8 ex_8 => ?_)
        refine va_iast hx hb hK hP hD hS 1 0 rfl rfl (zf_in (by omega) (by omega)) dX8_carries_38 (fun H locs hP hD hS => ?_)
        have h9R := zRe (ws' := [(of_, .inl (cI, 40, .inl fo)), (to_, .inl (cI, 130, .inl (upd g_1 x_7.toNatClampNeg x_8)))]) hP hD rfl
        clear hP hD
        obtain ⟨hP, hD⟩ := h9R
        obtain ⟨x_9, ex_9⟩ : ∃ y : Int32, y = i_3 + 1 := ⟨_, rfl⟩
        have qx_9 : x_9.toInt = i_3.toInt + 1 := dw_incK ex_9 fc_4 (by decide)
        refine lv_iinc (v := x_9) (lv' := [(6, .int x_9), (0, .ref m0), (1, .ref of_), (2, .int 40), (3, .ref to_), (4, .int 24), (5, .int 0)]) hx hb dX8_carries_39 hl (k := 0) rfl ex_9.symm (by decide) rfl (fun ls hl => ?_)
        refine lv_goto (tgt := 3) hx hb dX8_carries_42 (by decide) ?_
        exact ih x_9 ((upd g_1 x_7.toNatClampNeg x_8)) _ _ _ (hP.sub [0, 1] rfl) (hD.sub [0, 1] (by decide) rfl) hS (lv_sub hl [0, 1, 2, 3, 4, 5, 6] rfl) (show (∀ j : Nat, (upd g_1 x_7.toNatClampNeg x_8) j = zCar fo ft 24 x_9.toInt.toNat j) from by (intro j; have h8 : x_7.toNatClampNeg = 24 + i_3.toInt.toNat := (by (show x_7.toInt.toNat = _; omega)); have h7 := hvi_3_0 j; simp only [upd]; unfold zCar at h7 ⊢; exact (Classical.em (j = x_7.toNatClampNeg)).elim (fun e9 => by (rw [if_pos e9, if_pos (by omega), ex_8]; congr 1; (show i_3.toInt.toNat = _; omega))) (fun e9 => by (rw [if_neg e9, h7]; exact (Classical.em (24 ≤ j ∧ j < 24 + i_3.toInt.toNat)).elim (fun h6 => by rw [if_pos h6, if_pos (by omega)]) (fun h6 => by rw [if_neg h6, if_neg (by omega)]))))) (show x_9.toInt ≤ 40 from by omega) (dw_lo hloi_3 qx_9) (dw_hn hni_3 qx_9)
      · exact absurd c_6 (by decide)
set_option maxHeartbeats 4000000 in
set_option maxRecDepth 100000 in
theorem c_M_carb_40_24 (l : Launch) (D : va_G) (cI cJ cZ cP cS : ClassId) (po : zPool) (m0 of_ to_ : Nat) (fo ft : Nat → Int32) (hto : ∀ j : Nat, j < 40 → 0 ≤ (ft (24 + j)).toInt ∧ (ft (24 + j)).toInt ≤ 1) (hp_fo : zRg fo (0) 1) (hpz : Nat) : Met l yX8_carries wsX8_carries ({ frames := 0, cells := 0, slots := 0, locals := 0 }) (va_Pc [.ref m0, .ref of_, .int 40, .ref to_, .int 24, .int 1] (zW D (zKT cI cJ cZ cP cS) po [(of_, .inl (cI, 40, .inl fo)), (to_, .inl (cI, 130, .inl ft))] hpz)) (va_Qi (fun (r : Int32) (fo2 : (Nat → Int32)) => zRg fo2 (0) 1 ∧ ((∀ j : Nat, fo2 j = zCab ft fo 24 40 j)) ∧ (r = 64)) (zB D [(of_, .inl (cI, 40, .inl fo)), (to_, .inl (cI, 130, .inl ft))] hpz (fun (fo2 : Nat → Int32) => [(of_, .inl (cI, 40, .inl fo2)), (to_, .inl (cI, 130, .inl ft))])) (va_A [(of_, .inl (cI, 40, .inl fo)), (to_, .inl (cI, 130, .inl ft))] hpz)) 0 0 (va_A [(of_, .inl (cI, 40, .inl fo)), (to_, .inl (cI, 130, .inl ft))] hpz) := by
  refine Met.ofW (cc := cX8_carries) (maxL := 7) (ret := (some .int)) (by decide) rfl ?_
  intro p e s m args below meth c s₁ B hml hv
  obtain ⟨rfl, hsz, hP, hK, hD0, hN, hZ⟩ := hv
  have hx := B.exec
  have hb := B.bytes
  have hr := B.returns
  have hts := atoms_spec (ws := wsX8_carries) B.pre
  have hown : s.vm.findClass RX8 = some m.cls := findClass_of_methodNamed B.named
  have hlocks := B.notSynchronized
  subst hsz
  have hD := hD0.self (sz := s.heap.size)
  have hA := zA_of hD
  have hl := lv_entry ([.ref m0, .ref of_, .int 40, .ref to_, .int 24, .int 1]) (n := 7) (Nat.le_of_ble_eq_true rfl)
  rw [lg_entry_eq]
  generalize (lg_sl ([.ref m0, .ref of_, .int 40, .ref to_, .int 24, .int 1]) ++ List.replicate (7 - (lg_sl ([.ref m0, .ref of_, .int 40, .ref to_, .int 24, .int 1])).length) Slot.unset).toArray = ls at hl ⊢
  replace hl : lv_has ls 7 [(0, .ref m0), (1, .ref of_), (2, .int 40), (3, .ref to_), (4, .int 24), (5, .int 1)] := hl
  refine zw_begin hP hD (fun H locs hP1 hS => ?_)
  clear hP
  have hP := hP1
  clear hP1
  refine lv_iconst (v := 0) hx hb dX8_carries_0 (by decide) ?_
  refine lv_istore (lv' := [(6, .int 0), (0, .ref m0), (1, .ref of_), (2, .int 40), (3, .ref to_), (4, .int 24), (5, .int 1)]) hx hb dX8_carries_1 hl (by decide) rfl (fun ls hl => ?_)
  obtain ⟨i_3, hi_3⟩ : ∃ i : Int32, i = 0 := ⟨_, rfl⟩
  replace hl : lv_has ls 7 [(6, .int i_3), (0, .ref m0), (1, .ref of_), (2, .int 40), (3, .ref to_), (4, .int 24), (5, .int 1)] := by rw [hi_3]; exact lv_sub hl [0, 1, 2, 3, 4, 5, 6] rfl
  have h1i_3 : i_3.toInt = 0 := by rw [hi_3]; decide
  obtain ⟨nfu, hni_3⟩ : ∃ nq9 : Nat, 40 ≤ i_3.toInt + (nq9 : Int) := ⟨((40 : Int) - 0).toNat, by omega⟩
  have hloi_3 : 0 ≤ i_3.toInt := by omega
  obtain ⟨g_1, hg_1⟩ : ∃ g : Nat → Int32, g = fo := ⟨_, rfl⟩
  have hpg_1 : zRg g_1 (0) 1 := by rw [hg_1]; exact hp_fo
  replace hP : va_P D vwCl [(of_, .inl (cI, 40, .inl g_1)), (to_, .inl (cI, 130, .inl ft))] H := by rw [hg_1]; exact hP
  replace hD : va_D (va_A [(of_, .inl (cI, 40, .inl fo)), (to_, .inl (cI, 130, .inl ft))] s.heap.size) [(of_, .inl (cI, 40, .inl g_1)), (to_, .inl (cI, 130, .inl ft))] := by rw [hg_1]; exact hD
  have hvi_3_0 : (∀ j : Nat, g_1 j = zCab ft fo 24 i_3.toInt.toNat j) := by
    (try rw [hi_3]); (try rw [hg_1]); (intro j; unfold zCab; rw [if_neg (by have h8 : (0 : Int32).toInt.toNat = 0 := (by decide); omega)])
  have hvi_3_1 : i_3.toInt ≤ 40 := by
    (try rw [hi_3]); (try rw [hg_1]); first | omega | decide
  clear h1i_3 hi_3 hg_1
  skip
  revert hni_3
  revert hloi_3
  revert hvi_3_1
  revert hvi_3_0
  revert hpg_1
  revert hl
  revert hS
  revert hD
  revert hP
  revert ls
  revert locs
  revert H
  revert g_1
  revert i_3
  induction nfu with
  | zero =>
    intro i_3 g_1 H locs ls hP hD hS hl hpg_1 hvi_3_0 hvi_3_1 hloi_3 hni_3
    have hzi_3 : 40 ≤ i_3.toInt := by omega
    refine lv_iload hx hb dX8_carries_3 (lv_at hl 0 rfl) ?_
    refine lv_iload_n hx hb dX8_carries_5 rfl (lv_at hl 3 rfl) ?_
    refine lv_icmp_ge (tgt := 45) hx hb dX8_carries_6 (by decide) (fun c_2 => ?_) (fun c_2 => ?_)
    · have fc_2 : 40 ≤ i_3.toInt := zf_le c_2 (by decide) rfl
      refine lv_iload hx hb dX8_carries_45 (lv_at hl 5 rfl) ?_
      refine lv_iload_n hx hb dX8_carries_47 rfl (lv_at hl 3 rfl) ?_
      refine lv_iadd hx hb dX8_carries_48 ?_
      refine lv_topi (fun y_3 ey_3 => ?_)
      obtain rfl : y_3 = 64 := ey_3.trans (by decide)
      exact W.iret (v := 64) hx hb hr (fun t ht hW => ⟨⟨64, g_1, rfl, ⟨hpg_1, (show (∀ j : Nat, g_1 j = zCab ft fo 24 40 j) from by (intro j; have h8 := hvi_3_0 j; rw [show i_3.toInt.toNat = 40 from by omega] at h8; exact h8)), rfl⟩, zRet ht hP hD [0, 1] (by decide) rfl⟩, hS.F ht⟩) hS.2.2 dX8_carries_49
    · exfalso; have fc_2 : i_3.toInt < 40 := zf_nle c_2 (by decide) rfl; omega
  | succ nfu ih =>
    intro i_3 g_1 H locs ls hP hD hS hl hpg_1 hvi_3_0 hvi_3_1 hloi_3 hni_3
    refine lv_iload hx hb dX8_carries_3 (lv_at hl 0 rfl) ?_
    refine lv_iload_n hx hb dX8_carries_5 rfl (lv_at hl 3 rfl) ?_
    refine lv_icmp_ge (tgt := 45) hx hb dX8_carries_6 (by decide) (fun c_4 => ?_) (fun c_4 => ?_)
    · have fc_4 : 40 ≤ i_3.toInt := zf_le c_4 (by decide) rfl
      refine lv_iload hx hb dX8_carries_45 (lv_at hl 5 rfl) ?_
      refine lv_iload_n hx hb dX8_carries_47 rfl (lv_at hl 3 rfl) ?_
      refine lv_iadd hx hb dX8_carries_48 ?_
      refine lv_topi (fun y_5 ey_5 => ?_)
      obtain rfl : y_5 = 64 := ey_5.trans (by decide)
      exact W.iret (v := 64) hx hb hr (fun t ht hW => ⟨⟨64, g_1, rfl, ⟨hpg_1, (show (∀ j : Nat, g_1 j = zCab ft fo 24 40 j) from by (intro j; have h8 := hvi_3_0 j; rw [show i_3.toInt.toNat = 40 from by omega] at h8; exact h8)), rfl⟩, zRet ht hP hD [0, 1] (by decide) rfl⟩, hS.F ht⟩) hS.2.2 dX8_carries_49
    · have fc_4 : i_3.toInt < 40 := zf_nle c_4 (by decide) rfl
      refine lv_iload hx hb dX8_carries_9 (lv_at hl 6 rfl) ?_
      refine lv_if_eq (tgt := 28) hx hb dX8_carries_11 (by decide) (fun c_6 => ?_) (fun c_6 => ?_)
      · exact absurd c_6 (by decide)
      · refine lv_aload_n hx hb dX8_carries_14 rfl (lv_at hl 2 rfl) ?_
        refine lv_iload hx hb dX8_carries_15 (lv_at hl 0 rfl) ?_
        refine lv_aload_n hx hb dX8_carries_17 rfl (lv_at hl 4 rfl) ?_
        refine lv_iload hx hb dX8_carries_18 (lv_at hl 5 rfl) ?_
        refine lv_iload hx hb dX8_carries_20 (lv_at hl 0 rfl) ?_
        refine lv_iadd hx hb dX8_carries_22 ?_
        refine lv_topi (fun x_7 ex_7 => ?_)
        have qx_7 : x_7.toInt = 24 + i_3.toInt := by rw [ex_7]; exact zf_add (by decide) rfl (by omega) (by omega)
        refine va_iald hx hb hK hP 1 0 rfl rfl (zf_in (by omega) (by omega)) dX8_carries_23 ?_
        refine lv_topi (fun x_8 ex_8 => ?_)
        have bx_8 : 0 ≤ x_8.toInt ∧ x_8.toInt ≤ 1 := by rw [ex_8, show x_7.toNatClampNeg = 24 + i_3.toInt.toNat from by (show x_7.toInt.toNat = _; omega)]; exact hto _ (by omega)
        refine va_iast hx hb hK hP hD hS 0 0 rfl rfl (zf_in (by omega) (by omega)) dX8_carries_24 (fun H locs hP hD hS => ?_)
        have hpg_9 : zRg (upd g_1 i_3.toNatClampNeg x_8) (0) 1 := zRg_upd hpg_1 (by omega) (by omega)
        obtain ⟨g_9, hg_9⟩ : ∃ g : Nat → Int32, g = upd g_1 i_3.toNatClampNeg x_8 := ⟨_, rfl⟩
        rw [← hg_9] at hP hD hpg_9
        have h9R := zRe (ws' := [(of_, .inl (cI, 40, .inl g_9)), (to_, .inl (cI, 130, .inl ft))]) hP hD rfl
        clear hP hD
        obtain ⟨hP, hD⟩ := h9R
        refine lv_goto (tgt := 39) hx hb dX8_carries_25 (by decide) ?_
        obtain ⟨x_10, ex_10⟩ : ∃ y : Int32, y = i_3 + 1 := ⟨_, rfl⟩
        have qx_10 : x_10.toInt = i_3.toInt + 1 := dw_incK ex_10 fc_4 (by decide)
        refine lv_iinc (v := x_10) (lv' := [(6, .int x_10), (0, .ref m0), (1, .ref of_), (2, .int 40), (3, .ref to_), (4, .int 24), (5, .int 1)]) hx hb dX8_carries_39 hl (k := 0) rfl ex_10.symm (by decide) rfl (fun ls hl => ?_)
        refine lv_goto (tgt := 3) hx hb dX8_carries_42 (by decide) ?_
        exact ih x_10 (g_9) _ _ _ (hP.sub [0, 1] rfl) (hD.sub [0, 1] (by decide) rfl) hS (lv_sub hl [0, 1, 2, 3, 4, 5, 6] rfl) hpg_9 (show (∀ j : Nat, g_9 j = zCab ft fo 24 x_10.toInt.toNat j) from by (intro j; rw [hg_9]; have h8 : i_3.toNatClampNeg = i_3.toInt.toNat := rfl; have h7 := hvi_3_0 j; simp only [upd]; unfold zCab at h7 ⊢; exact (Classical.em (j = i_3.toNatClampNeg)).elim (fun e9 => by (rw [if_pos e9, if_pos (by omega), ex_8]; congr 1; (show x_7.toInt.toNat = _; omega))) (fun e9 => by (rw [if_neg e9, h7]; exact (Classical.em (j < i_3.toInt.toNat)).elim (fun h6 => by rw [if_pos h6, if_pos (by omega)]) (fun h6 => by rw [if_neg h6, if_neg (by omega)]))))) (show x_10.toInt ≤ 40 from by omega) (dw_lo hloi_3 qx_10) (dw_hn hni_3 qx_10)
set_option maxHeartbeats 4000000 in
set_option maxRecDepth 100000 in
theorem c_M_carf_40_64 (l : Launch) (D : va_G) (cI cJ cZ cP cS : ClassId) (po : zPool) (m0 of_ to_ : Nat) (fo ft : Nat → Int32)  (hpz : Nat) : Met l yX8_carries wsX8_carries ({ frames := 0, cells := 0, slots := 0, locals := 0 }) (va_Pc [.ref m0, .ref of_, .int 40, .ref to_, .int 64, .int 0] (zW D (zKT cI cJ cZ cP cS) po [(of_, .inl (cI, 40, .inl fo)), (to_, .inl (cI, 130, .inl ft))] hpz)) (va_Qi (fun (r : Int32) (ft2 : (Nat → Int32)) => ((∀ j : Nat, ft2 j = zCar fo ft 64 40 j)) ∧ (r = 104)) (zB D [(of_, .inl (cI, 40, .inl fo)), (to_, .inl (cI, 130, .inl ft))] hpz (fun (ft2 : Nat → Int32) => [(of_, .inl (cI, 40, .inl fo)), (to_, .inl (cI, 130, .inl ft2))])) (va_A [(of_, .inl (cI, 40, .inl fo)), (to_, .inl (cI, 130, .inl ft))] hpz)) 0 0 (va_A [(of_, .inl (cI, 40, .inl fo)), (to_, .inl (cI, 130, .inl ft))] hpz) := by
  refine Met.ofW (cc := cX8_carries) (maxL := 7) (ret := (some .int)) (by decide) rfl ?_
  intro p e s m args below meth c s₁ B hml hv
  obtain ⟨rfl, hsz, hP, hK, hD0, hN, hZ⟩ := hv
  have hx := B.exec
  have hb := B.bytes
  have hr := B.returns
  have hts := atoms_spec (ws := wsX8_carries) B.pre
  have hown : s.vm.findClass RX8 = some m.cls := findClass_of_methodNamed B.named
  have hlocks := B.notSynchronized
  subst hsz
  have hD := hD0.self (sz := s.heap.size)
  have hA := zA_of hD
  have hl := lv_entry ([.ref m0, .ref of_, .int 40, .ref to_, .int 64, .int 0]) (n := 7) (Nat.le_of_ble_eq_true rfl)
  rw [lg_entry_eq]
  generalize (lg_sl ([.ref m0, .ref of_, .int 40, .ref to_, .int 64, .int 0]) ++ List.replicate (7 - (lg_sl ([.ref m0, .ref of_, .int 40, .ref to_, .int 64, .int 0])).length) Slot.unset).toArray = ls at hl ⊢
  replace hl : lv_has ls 7 [(0, .ref m0), (1, .ref of_), (2, .int 40), (3, .ref to_), (4, .int 64), (5, .int 0)] := hl
  refine zw_begin hP hD (fun H locs hP1 hS => ?_)
  clear hP
  have hP := hP1
  clear hP1
  refine lv_iconst (v := 0) hx hb dX8_carries_0 (by decide) ?_
  refine lv_istore (lv' := [(6, .int 0), (0, .ref m0), (1, .ref of_), (2, .int 40), (3, .ref to_), (4, .int 64), (5, .int 0)]) hx hb dX8_carries_1 hl (by decide) rfl (fun ls hl => ?_)
  obtain ⟨i_3, hi_3⟩ : ∃ i : Int32, i = 0 := ⟨_, rfl⟩
  replace hl : lv_has ls 7 [(6, .int i_3), (0, .ref m0), (1, .ref of_), (2, .int 40), (3, .ref to_), (4, .int 64), (5, .int 0)] := by rw [hi_3]; exact lv_sub hl [0, 1, 2, 3, 4, 5, 6] rfl
  have h1i_3 : i_3.toInt = 0 := by rw [hi_3]; decide
  obtain ⟨nfu, hni_3⟩ : ∃ nq9 : Nat, 40 ≤ i_3.toInt + (nq9 : Int) := ⟨((40 : Int) - 0).toNat, by omega⟩
  have hloi_3 : 0 ≤ i_3.toInt := by omega
  obtain ⟨g_1, hg_1⟩ : ∃ g : Nat → Int32, g = ft := ⟨_, rfl⟩
  replace hP : va_P D vwCl [(of_, .inl (cI, 40, .inl fo)), (to_, .inl (cI, 130, .inl g_1))] H := by rw [hg_1]; exact hP
  replace hD : va_D (va_A [(of_, .inl (cI, 40, .inl fo)), (to_, .inl (cI, 130, .inl ft))] s.heap.size) [(of_, .inl (cI, 40, .inl fo)), (to_, .inl (cI, 130, .inl g_1))] := by rw [hg_1]; exact hD
  have hvi_3_0 : (∀ j : Nat, g_1 j = zCar fo ft 64 i_3.toInt.toNat j) := by
    (try rw [hi_3]); (try rw [hg_1]); (intro j; unfold zCar; rw [if_neg (by have h8 : (0 : Int32).toInt.toNat = 0 := (by decide); omega)])
  have hvi_3_1 : i_3.toInt ≤ 40 := by
    (try rw [hi_3]); (try rw [hg_1]); first | omega | decide
  clear h1i_3 hi_3 hg_1
  skip
  revert hni_3
  revert hloi_3
  revert hvi_3_1
  revert hvi_3_0
  revert hl
  revert hS
  revert hD
  revert hP
  revert ls
  revert locs
  revert H
  revert g_1
  revert i_3
  induction nfu with
  | zero =>
    intro i_3 g_1 H locs ls hP hD hS hl hvi_3_0 hvi_3_1 hloi_3 hni_3
    have hzi_3 : 40 ≤ i_3.toInt := by omega
    refine lv_iload hx hb dX8_carries_3 (lv_at hl 0 rfl) ?_
    refine lv_iload_n hx hb dX8_carries_5 rfl (lv_at hl 3 rfl) ?_
    refine lv_icmp_ge (tgt := 45) hx hb dX8_carries_6 (by decide) (fun c_2 => ?_) (fun c_2 => ?_)
    · have fc_2 : 40 ≤ i_3.toInt := zf_le c_2 (by decide) rfl
      refine lv_iload hx hb dX8_carries_45 (lv_at hl 5 rfl) ?_
      refine lv_iload_n hx hb dX8_carries_47 rfl (lv_at hl 3 rfl) ?_
      refine lv_iadd hx hb dX8_carries_48 ?_
      refine lv_topi (fun y_3 ey_3 => ?_)
      obtain rfl : y_3 = 104 := ey_3.trans (by decide)
      exact W.iret (v := 104) hx hb hr (fun t ht hW => ⟨⟨104, g_1, rfl, ⟨(show (∀ j : Nat, g_1 j = zCar fo ft 64 40 j) from by (intro j; have h8 := hvi_3_0 j; rw [show i_3.toInt.toNat = 40 from by omega] at h8; exact h8)), rfl⟩, zRet ht hP hD [0, 1] (by decide) rfl⟩, hS.F ht⟩) hS.2.2 dX8_carries_49
    · exfalso; have fc_2 : i_3.toInt < 40 := zf_nle c_2 (by decide) rfl; omega
  | succ nfu ih =>
    intro i_3 g_1 H locs ls hP hD hS hl hvi_3_0 hvi_3_1 hloi_3 hni_3
    refine lv_iload hx hb dX8_carries_3 (lv_at hl 0 rfl) ?_
    refine lv_iload_n hx hb dX8_carries_5 rfl (lv_at hl 3 rfl) ?_
    refine lv_icmp_ge (tgt := 45) hx hb dX8_carries_6 (by decide) (fun c_4 => ?_) (fun c_4 => ?_)
    · have fc_4 : 40 ≤ i_3.toInt := zf_le c_4 (by decide) rfl
      refine lv_iload hx hb dX8_carries_45 (lv_at hl 5 rfl) ?_
      refine lv_iload_n hx hb dX8_carries_47 rfl (lv_at hl 3 rfl) ?_
      refine lv_iadd hx hb dX8_carries_48 ?_
      refine lv_topi (fun y_5 ey_5 => ?_)
      obtain rfl : y_5 = 104 := ey_5.trans (by decide)
      exact W.iret (v := 104) hx hb hr (fun t ht hW => ⟨⟨104, g_1, rfl, ⟨(show (∀ j : Nat, g_1 j = zCar fo ft 64 40 j) from by (intro j; have h8 := hvi_3_0 j; rw [show i_3.toInt.toNat = 40 from by omega] at h8; exact h8)), rfl⟩, zRet ht hP hD [0, 1] (by decide) rfl⟩, hS.F ht⟩) hS.2.2 dX8_carries_49
    · have fc_4 : i_3.toInt < 40 := zf_nle c_4 (by decide) rfl
      refine lv_iload hx hb dX8_carries_9 (lv_at hl 6 rfl) ?_
      refine lv_if_eq (tgt := 28) hx hb dX8_carries_11 (by decide) (fun c_6 => ?_) (fun c_6 => ?_)
      · refine lv_aload_n hx hb dX8_carries_28 rfl (lv_at hl 4 rfl) ?_
        refine lv_iload hx hb dX8_carries_29 (lv_at hl 5 rfl) ?_
        refine lv_iload hx hb dX8_carries_31 (lv_at hl 0 rfl) ?_
        refine lv_iadd hx hb dX8_carries_33 ?_
        refine lv_topi (fun x_7 ex_7 => ?_)
        have qx_7 : x_7.toInt = 64 + i_3.toInt := by rw [ex_7]; exact zf_add (by decide) rfl (by omega) (by omega)
        refine lv_aload_n hx hb dX8_carries_34 rfl (lv_at hl 2 rfl) ?_
        refine lv_iload hx hb dX8_carries_35 (lv_at hl 0 rfl) ?_
        refine va_iald hx hb hK hP 0 0 rfl rfl (zf_in (by omega) (by omega)) dX8_carries_37 ?_
        refine lv_topi (fun x_8 ex_8 => ?_)
        refine va_iast hx hb hK hP hD hS 1 0 rfl rfl (zf_in (by omega) (by omega)) dX8_carries_38 (fun H locs hP hD hS => ?_)
        have h9R := zRe (ws' := [(of_, .inl (cI, 40, .inl fo)), (to_, .inl (cI, 130, .inl (upd g_1 x_7.toNatClampNeg x_8)))]) hP hD rfl
        clear hP hD
        obtain ⟨hP, hD⟩ := h9R
        obtain ⟨x_9, ex_9⟩ : ∃ y : Int32, y = i_3 + 1 := ⟨_, rfl⟩
        have qx_9 : x_9.toInt = i_3.toInt + 1 := dw_incK ex_9 fc_4 (by decide)
        refine lv_iinc (v := x_9) (lv' := [(6, .int x_9), (0, .ref m0), (1, .ref of_), (2, .int 40), (3, .ref to_), (4, .int 64), (5, .int 0)]) hx hb dX8_carries_39 hl (k := 0) rfl ex_9.symm (by decide) rfl (fun ls hl => ?_)
        refine lv_goto (tgt := 3) hx hb dX8_carries_42 (by decide) ?_
        exact ih x_9 ((upd g_1 x_7.toNatClampNeg x_8)) _ _ _ (hP.sub [0, 1] rfl) (hD.sub [0, 1] (by decide) rfl) hS (lv_sub hl [0, 1, 2, 3, 4, 5, 6] rfl) (show (∀ j : Nat, (upd g_1 x_7.toNatClampNeg x_8) j = zCar fo ft 64 x_9.toInt.toNat j) from by (intro j; have h8 : x_7.toNatClampNeg = 64 + i_3.toInt.toNat := (by (show x_7.toInt.toNat = _; omega)); have h7 := hvi_3_0 j; simp only [upd]; unfold zCar at h7 ⊢; exact (Classical.em (j = x_7.toNatClampNeg)).elim (fun e9 => by (rw [if_pos e9, if_pos (by omega), ex_8]; congr 1; (show i_3.toInt.toNat = _; omega))) (fun e9 => by (rw [if_neg e9, h7]; exact (Classical.em (64 ≤ j ∧ j < 64 + i_3.toInt.toNat)).elim (fun h6 => by rw [if_pos h6, if_pos (by omega)]) (fun h6 => by rw [if_neg h6, if_neg (by omega)]))))) (show x_9.toInt ≤ 40 from by omega) (dw_lo hloi_3 qx_9) (dw_hn hni_3 qx_9)
      · exact absurd c_6 (by decide)
set_option maxHeartbeats 4000000 in
set_option maxRecDepth 100000 in
theorem c_M_carb_40_64 (l : Launch) (D : va_G) (cI cJ cZ cP cS : ClassId) (po : zPool) (m0 of_ to_ : Nat) (fo ft : Nat → Int32) (hto : ∀ j : Nat, j < 40 → 0 ≤ (ft (64 + j)).toInt ∧ (ft (64 + j)).toInt ≤ 9) (hp_fo : zRg fo (0) 9) (hpz : Nat) : Met l yX8_carries wsX8_carries ({ frames := 0, cells := 0, slots := 0, locals := 0 }) (va_Pc [.ref m0, .ref of_, .int 40, .ref to_, .int 64, .int 1] (zW D (zKT cI cJ cZ cP cS) po [(of_, .inl (cI, 40, .inl fo)), (to_, .inl (cI, 130, .inl ft))] hpz)) (va_Qi (fun (r : Int32) (fo2 : (Nat → Int32)) => zRg fo2 (0) 9 ∧ ((∀ j : Nat, fo2 j = zCab ft fo 64 40 j)) ∧ (r = 104)) (zB D [(of_, .inl (cI, 40, .inl fo)), (to_, .inl (cI, 130, .inl ft))] hpz (fun (fo2 : Nat → Int32) => [(of_, .inl (cI, 40, .inl fo2)), (to_, .inl (cI, 130, .inl ft))])) (va_A [(of_, .inl (cI, 40, .inl fo)), (to_, .inl (cI, 130, .inl ft))] hpz)) 0 0 (va_A [(of_, .inl (cI, 40, .inl fo)), (to_, .inl (cI, 130, .inl ft))] hpz) := by
  refine Met.ofW (cc := cX8_carries) (maxL := 7) (ret := (some .int)) (by decide) rfl ?_
  intro p e s m args below meth c s₁ B hml hv
  obtain ⟨rfl, hsz, hP, hK, hD0, hN, hZ⟩ := hv
  have hx := B.exec
  have hb := B.bytes
  have hr := B.returns
  have hts := atoms_spec (ws := wsX8_carries) B.pre
  have hown : s.vm.findClass RX8 = some m.cls := findClass_of_methodNamed B.named
  have hlocks := B.notSynchronized
  subst hsz
  have hD := hD0.self (sz := s.heap.size)
  have hA := zA_of hD
  have hl := lv_entry ([.ref m0, .ref of_, .int 40, .ref to_, .int 64, .int 1]) (n := 7) (Nat.le_of_ble_eq_true rfl)
  rw [lg_entry_eq]
  generalize (lg_sl ([.ref m0, .ref of_, .int 40, .ref to_, .int 64, .int 1]) ++ List.replicate (7 - (lg_sl ([.ref m0, .ref of_, .int 40, .ref to_, .int 64, .int 1])).length) Slot.unset).toArray = ls at hl ⊢
  replace hl : lv_has ls 7 [(0, .ref m0), (1, .ref of_), (2, .int 40), (3, .ref to_), (4, .int 64), (5, .int 1)] := hl
  refine zw_begin hP hD (fun H locs hP1 hS => ?_)
  clear hP
  have hP := hP1
  clear hP1
  refine lv_iconst (v := 0) hx hb dX8_carries_0 (by decide) ?_
  refine lv_istore (lv' := [(6, .int 0), (0, .ref m0), (1, .ref of_), (2, .int 40), (3, .ref to_), (4, .int 64), (5, .int 1)]) hx hb dX8_carries_1 hl (by decide) rfl (fun ls hl => ?_)
  obtain ⟨i_3, hi_3⟩ : ∃ i : Int32, i = 0 := ⟨_, rfl⟩
  replace hl : lv_has ls 7 [(6, .int i_3), (0, .ref m0), (1, .ref of_), (2, .int 40), (3, .ref to_), (4, .int 64), (5, .int 1)] := by rw [hi_3]; exact lv_sub hl [0, 1, 2, 3, 4, 5, 6] rfl
  have h1i_3 : i_3.toInt = 0 := by rw [hi_3]; decide
  obtain ⟨nfu, hni_3⟩ : ∃ nq9 : Nat, 40 ≤ i_3.toInt + (nq9 : Int) := ⟨((40 : Int) - 0).toNat, by omega⟩
  have hloi_3 : 0 ≤ i_3.toInt := by omega
  obtain ⟨g_1, hg_1⟩ : ∃ g : Nat → Int32, g = fo := ⟨_, rfl⟩
  have hpg_1 : zRg g_1 (0) 9 := by rw [hg_1]; exact hp_fo
  replace hP : va_P D vwCl [(of_, .inl (cI, 40, .inl g_1)), (to_, .inl (cI, 130, .inl ft))] H := by rw [hg_1]; exact hP
  replace hD : va_D (va_A [(of_, .inl (cI, 40, .inl fo)), (to_, .inl (cI, 130, .inl ft))] s.heap.size) [(of_, .inl (cI, 40, .inl g_1)), (to_, .inl (cI, 130, .inl ft))] := by rw [hg_1]; exact hD
  have hvi_3_0 : (∀ j : Nat, g_1 j = zCab ft fo 64 i_3.toInt.toNat j) := by
    (try rw [hi_3]); (try rw [hg_1]); (intro j; unfold zCab; rw [if_neg (by have h8 : (0 : Int32).toInt.toNat = 0 := (by decide); omega)])
  have hvi_3_1 : i_3.toInt ≤ 40 := by
    (try rw [hi_3]); (try rw [hg_1]); first | omega | decide
  clear h1i_3 hi_3 hg_1
  skip
  revert hni_3
  revert hloi_3
  revert hvi_3_1
  revert hvi_3_0
  revert hpg_1
  revert hl
  revert hS
  revert hD
  revert hP
  revert ls
  revert locs
  revert H
  revert g_1
  revert i_3
  induction nfu with
  | zero =>
    intro i_3 g_1 H locs ls hP hD hS hl hpg_1 hvi_3_0 hvi_3_1 hloi_3 hni_3
    have hzi_3 : 40 ≤ i_3.toInt := by omega
    refine lv_iload hx hb dX8_carries_3 (lv_at hl 0 rfl) ?_
    refine lv_iload_n hx hb dX8_carries_5 rfl (lv_at hl 3 rfl) ?_
    refine lv_icmp_ge (tgt := 45) hx hb dX8_carries_6 (by decide) (fun c_2 => ?_) (fun c_2 => ?_)
    · have fc_2 : 40 ≤ i_3.toInt := zf_le c_2 (by decide) rfl
      refine lv_iload hx hb dX8_carries_45 (lv_at hl 5 rfl) ?_
      refine lv_iload_n hx hb dX8_carries_47 rfl (lv_at hl 3 rfl) ?_
      refine lv_iadd hx hb dX8_carries_48 ?_
      refine lv_topi (fun y_3 ey_3 => ?_)
      obtain rfl : y_3 = 104 := ey_3.trans (by decide)
      exact W.iret (v := 104) hx hb hr (fun t ht hW => ⟨⟨104, g_1, rfl, ⟨hpg_1, (show (∀ j : Nat, g_1 j = zCab ft fo 64 40 j) from by (intro j; have h8 := hvi_3_0 j; rw [show i_3.toInt.toNat = 40 from by omega] at h8; exact h8)), rfl⟩, zRet ht hP hD [0, 1] (by decide) rfl⟩, hS.F ht⟩) hS.2.2 dX8_carries_49
    · exfalso; have fc_2 : i_3.toInt < 40 := zf_nle c_2 (by decide) rfl; omega
  | succ nfu ih =>
    intro i_3 g_1 H locs ls hP hD hS hl hpg_1 hvi_3_0 hvi_3_1 hloi_3 hni_3
    refine lv_iload hx hb dX8_carries_3 (lv_at hl 0 rfl) ?_
    refine lv_iload_n hx hb dX8_carries_5 rfl (lv_at hl 3 rfl) ?_
    refine lv_icmp_ge (tgt := 45) hx hb dX8_carries_6 (by decide) (fun c_4 => ?_) (fun c_4 => ?_)
    · have fc_4 : 40 ≤ i_3.toInt := zf_le c_4 (by decide) rfl
      refine lv_iload hx hb dX8_carries_45 (lv_at hl 5 rfl) ?_
      refine lv_iload_n hx hb dX8_carries_47 rfl (lv_at hl 3 rfl) ?_
      refine lv_iadd hx hb dX8_carries_48 ?_
      refine lv_topi (fun y_5 ey_5 => ?_)
      obtain rfl : y_5 = 104 := ey_5.trans (by decide)
      exact W.iret (v := 104) hx hb hr (fun t ht hW => ⟨⟨104, g_1, rfl, ⟨hpg_1, (show (∀ j : Nat, g_1 j = zCab ft fo 64 40 j) from by (intro j; have h8 := hvi_3_0 j; rw [show i_3.toInt.toNat = 40 from by omega] at h8; exact h8)), rfl⟩, zRet ht hP hD [0, 1] (by decide) rfl⟩, hS.F ht⟩) hS.2.2 dX8_carries_49
    · have fc_4 : i_3.toInt < 40 := zf_nle c_4 (by decide) rfl
      refine lv_iload hx hb dX8_carries_9 (lv_at hl 6 rfl) ?_
      refine lv_if_eq (tgt := 28) hx hb dX8_carries_11 (by decide) (fun c_6 => ?_) (fun c_6 => ?_)
      · exact absurd c_6 (by decide)
      · refine lv_aload_n hx hb dX8_carries_14 rfl (lv_at hl 2 rfl) ?_
        refine lv_iload hx hb dX8_carries_15 (lv_at hl 0 rfl) ?_
        refine lv_aload_n hx hb dX8_carries_17 rfl (lv_at hl 4 rfl) ?_
        refine lv_iload hx hb dX8_carries_18 (lv_at hl 5 rfl) ?_
        refine lv_iload hx hb dX8_carries_20 (lv_at hl 0 rfl) ?_
        refine lv_iadd hx hb dX8_carries_22 ?_
        refine lv_topi (fun x_7 ex_7 => ?_)
        have qx_7 : x_7.toInt = 64 + i_3.toInt := by rw [ex_7]; exact zf_add (by decide) rfl (by omega) (by omega)
        refine va_iald hx hb hK hP 1 0 rfl rfl (zf_in (by omega) (by omega)) dX8_carries_23 ?_
        refine lv_topi (fun x_8 ex_8 => ?_)
        have bx_8 : 0 ≤ x_8.toInt ∧ x_8.toInt ≤ 9 := by rw [ex_8, show x_7.toNatClampNeg = 64 + i_3.toInt.toNat from by (show x_7.toInt.toNat = _; omega)]; exact hto _ (by omega)
        refine va_iast hx hb hK hP hD hS 0 0 rfl rfl (zf_in (by omega) (by omega)) dX8_carries_24 (fun H locs hP hD hS => ?_)
        have hpg_9 : zRg (upd g_1 i_3.toNatClampNeg x_8) (0) 9 := zRg_upd hpg_1 (by omega) (by omega)
        obtain ⟨g_9, hg_9⟩ : ∃ g : Nat → Int32, g = upd g_1 i_3.toNatClampNeg x_8 := ⟨_, rfl⟩
        rw [← hg_9] at hP hD hpg_9
        have h9R := zRe (ws' := [(of_, .inl (cI, 40, .inl g_9)), (to_, .inl (cI, 130, .inl ft))]) hP hD rfl
        clear hP hD
        obtain ⟨hP, hD⟩ := h9R
        refine lv_goto (tgt := 39) hx hb dX8_carries_25 (by decide) ?_
        obtain ⟨x_10, ex_10⟩ : ∃ y : Int32, y = i_3 + 1 := ⟨_, rfl⟩
        have qx_10 : x_10.toInt = i_3.toInt + 1 := dw_incK ex_10 fc_4 (by decide)
        refine lv_iinc (v := x_10) (lv' := [(6, .int x_10), (0, .ref m0), (1, .ref of_), (2, .int 40), (3, .ref to_), (4, .int 64), (5, .int 1)]) hx hb dX8_carries_39 hl (k := 0) rfl ex_10.symm (by decide) rfl (fun ls hl => ?_)
        refine lv_goto (tgt := 3) hx hb dX8_carries_42 (by decide) ?_
        exact ih x_10 (g_9) _ _ _ (hP.sub [0, 1] rfl) (hD.sub [0, 1] (by decide) rfl) hS (lv_sub hl [0, 1, 2, 3, 4, 5, 6] rfl) hpg_9 (show (∀ j : Nat, g_9 j = zCab ft fo 64 x_10.toInt.toNat j) from by (intro j; rw [hg_9]; have h8 : i_3.toNatClampNeg = i_3.toInt.toNat := rfl; have h7 := hvi_3_0 j; simp only [upd]; unfold zCab at h7 ⊢; exact (Classical.em (j = i_3.toNatClampNeg)).elim (fun e9 => by (rw [if_pos e9, if_pos (by omega), ex_8]; congr 1; (show x_7.toInt.toNat = _; omega))) (fun e9 => by (rw [if_neg e9, h7]; exact (Classical.em (j < i_3.toInt.toNat)).elim (fun h6 => by rw [if_pos h6, if_pos (by omega)]) (fun h6 => by rw [if_neg h6, if_neg (by omega)]))))) (show x_10.toInt ≤ 40 from by omega) (dw_lo hloi_3 qx_10) (dw_hn hni_3 qx_10)
set_option maxHeartbeats 4000000 in
set_option maxRecDepth 100000 in
theorem c_M_carf_3_104 (l : Launch) (D : va_G) (cI cJ cZ cP cS : ClassId) (po : zPool) (m0 of_ to_ : Nat) (fo ft : Nat → Int32)  (hpz : Nat) : Met l yX8_carries wsX8_carries ({ frames := 0, cells := 0, slots := 0, locals := 0 }) (va_Pc [.ref m0, .ref of_, .int 3, .ref to_, .int 104, .int 0] (zW D (zKT cI cJ cZ cP cS) po [(of_, .inl (cI, 3, .inl fo)), (to_, .inl (cI, 130, .inl ft))] hpz)) (va_Qi (fun (r : Int32) (ft2 : (Nat → Int32)) => ((∀ j : Nat, ft2 j = zCar fo ft 104 3 j)) ∧ (r = 107)) (zB D [(of_, .inl (cI, 3, .inl fo)), (to_, .inl (cI, 130, .inl ft))] hpz (fun (ft2 : Nat → Int32) => [(of_, .inl (cI, 3, .inl fo)), (to_, .inl (cI, 130, .inl ft2))])) (va_A [(of_, .inl (cI, 3, .inl fo)), (to_, .inl (cI, 130, .inl ft))] hpz)) 0 0 (va_A [(of_, .inl (cI, 3, .inl fo)), (to_, .inl (cI, 130, .inl ft))] hpz) := by
  refine Met.ofW (cc := cX8_carries) (maxL := 7) (ret := (some .int)) (by decide) rfl ?_
  intro p e s m args below meth c s₁ B hml hv
  obtain ⟨rfl, hsz, hP, hK, hD0, hN, hZ⟩ := hv
  have hx := B.exec
  have hb := B.bytes
  have hr := B.returns
  have hts := atoms_spec (ws := wsX8_carries) B.pre
  have hown : s.vm.findClass RX8 = some m.cls := findClass_of_methodNamed B.named
  have hlocks := B.notSynchronized
  subst hsz
  have hD := hD0.self (sz := s.heap.size)
  have hA := zA_of hD
  have hl := lv_entry ([.ref m0, .ref of_, .int 3, .ref to_, .int 104, .int 0]) (n := 7) (Nat.le_of_ble_eq_true rfl)
  rw [lg_entry_eq]
  generalize (lg_sl ([.ref m0, .ref of_, .int 3, .ref to_, .int 104, .int 0]) ++ List.replicate (7 - (lg_sl ([.ref m0, .ref of_, .int 3, .ref to_, .int 104, .int 0])).length) Slot.unset).toArray = ls at hl ⊢
  replace hl : lv_has ls 7 [(0, .ref m0), (1, .ref of_), (2, .int 3), (3, .ref to_), (4, .int 104), (5, .int 0)] := hl
  refine zw_begin hP hD (fun H locs hP1 hS => ?_)
  clear hP
  have hP := hP1
  clear hP1
  refine lv_iconst (v := 0) hx hb dX8_carries_0 (by decide) ?_
  refine lv_istore (lv' := [(6, .int 0), (0, .ref m0), (1, .ref of_), (2, .int 3), (3, .ref to_), (4, .int 104), (5, .int 0)]) hx hb dX8_carries_1 hl (by decide) rfl (fun ls hl => ?_)
  obtain ⟨i_3, hi_3⟩ : ∃ i : Int32, i = 0 := ⟨_, rfl⟩
  replace hl : lv_has ls 7 [(6, .int i_3), (0, .ref m0), (1, .ref of_), (2, .int 3), (3, .ref to_), (4, .int 104), (5, .int 0)] := by rw [hi_3]; exact lv_sub hl [0, 1, 2, 3, 4, 5, 6] rfl
  have h1i_3 : i_3.toInt = 0 := by rw [hi_3]; decide
  obtain ⟨nfu, hni_3⟩ : ∃ nq9 : Nat, 3 ≤ i_3.toInt + (nq9 : Int) := ⟨((3 : Int) - 0).toNat, by omega⟩
  have hloi_3 : 0 ≤ i_3.toInt := by omega
  obtain ⟨g_1, hg_1⟩ : ∃ g : Nat → Int32, g = ft := ⟨_, rfl⟩
  replace hP : va_P D vwCl [(of_, .inl (cI, 3, .inl fo)), (to_, .inl (cI, 130, .inl g_1))] H := by rw [hg_1]; exact hP
  replace hD : va_D (va_A [(of_, .inl (cI, 3, .inl fo)), (to_, .inl (cI, 130, .inl ft))] s.heap.size) [(of_, .inl (cI, 3, .inl fo)), (to_, .inl (cI, 130, .inl g_1))] := by rw [hg_1]; exact hD
  have hvi_3_0 : (∀ j : Nat, g_1 j = zCar fo ft 104 i_3.toInt.toNat j) := by
    (try rw [hi_3]); (try rw [hg_1]); (intro j; unfold zCar; rw [if_neg (by have h8 : (0 : Int32).toInt.toNat = 0 := (by decide); omega)])
  have hvi_3_1 : i_3.toInt ≤ 3 := by
    (try rw [hi_3]); (try rw [hg_1]); first | omega | decide
  clear h1i_3 hi_3 hg_1
  skip
  revert hni_3
  revert hloi_3
  revert hvi_3_1
  revert hvi_3_0
  revert hl
  revert hS
  revert hD
  revert hP
  revert ls
  revert locs
  revert H
  revert g_1
  revert i_3
  induction nfu with
  | zero =>
    intro i_3 g_1 H locs ls hP hD hS hl hvi_3_0 hvi_3_1 hloi_3 hni_3
    have hzi_3 : 3 ≤ i_3.toInt := by omega
    refine lv_iload hx hb dX8_carries_3 (lv_at hl 0 rfl) ?_
    refine lv_iload_n hx hb dX8_carries_5 rfl (lv_at hl 3 rfl) ?_
    refine lv_icmp_ge (tgt := 45) hx hb dX8_carries_6 (by decide) (fun c_2 => ?_) (fun c_2 => ?_)
    · have fc_2 : 3 ≤ i_3.toInt := zf_le c_2 (by decide) rfl
      refine lv_iload hx hb dX8_carries_45 (lv_at hl 5 rfl) ?_
      refine lv_iload_n hx hb dX8_carries_47 rfl (lv_at hl 3 rfl) ?_
      refine lv_iadd hx hb dX8_carries_48 ?_
      refine lv_topi (fun y_3 ey_3 => ?_)
      obtain rfl : y_3 = 107 := ey_3.trans (by decide)
      exact W.iret (v := 107) hx hb hr (fun t ht hW => ⟨⟨107, g_1, rfl, ⟨(show (∀ j : Nat, g_1 j = zCar fo ft 104 3 j) from by (intro j; have h8 := hvi_3_0 j; rw [show i_3.toInt.toNat = 3 from by omega] at h8; exact h8)), rfl⟩, zRet ht hP hD [0, 1] (by decide) rfl⟩, hS.F ht⟩) hS.2.2 dX8_carries_49
    · exfalso; have fc_2 : i_3.toInt < 3 := zf_nle c_2 (by decide) rfl; omega
  | succ nfu ih =>
    intro i_3 g_1 H locs ls hP hD hS hl hvi_3_0 hvi_3_1 hloi_3 hni_3
    refine lv_iload hx hb dX8_carries_3 (lv_at hl 0 rfl) ?_
    refine lv_iload_n hx hb dX8_carries_5 rfl (lv_at hl 3 rfl) ?_
    refine lv_icmp_ge (tgt := 45) hx hb dX8_carries_6 (by decide) (fun c_4 => ?_) (fun c_4 => ?_)
    · have fc_4 : 3 ≤ i_3.toInt := zf_le c_4 (by decide) rfl
      refine lv_iload hx hb dX8_carries_45 (lv_at hl 5 rfl) ?_
      refine lv_iload_n hx hb dX8_carries_47 rfl (lv_at hl 3 rfl) ?_
      refine lv_iadd hx hb dX8_carries_48 ?_
      refine lv_topi (fun y_5 ey_5 => ?_)
      obtain rfl : y_5 = 107 := ey_5.trans (by decide)
      exact W.iret (v := 107) hx hb hr (fun t ht hW => ⟨⟨107, g_1, rfl, ⟨(show (∀ j : Nat, g_1 j = zCar fo ft 104 3 j) from by (intro j; have h8 := hvi_3_0 j; rw [show i_3.toInt.toNat = 3 from by omega] at h8; exact h8)), rfl⟩, zRet ht hP hD [0, 1] (by decide) rfl⟩, hS.F ht⟩) hS.2.2 dX8_carries_49
    · have fc_4 : i_3.toInt < 3 := zf_nle c_4 (by decide) rfl
      refine lv_iload hx hb dX8_carries_9 (lv_at hl 6 rfl) ?_
      refine lv_if_eq (tgt := 28) hx hb dX8_carries_11 (by decide) (fun c_6 => ?_) (fun c_6 => ?_)
      · refine lv_aload_n hx hb dX8_carries_28 rfl (lv_at hl 4 rfl) ?_
        refine lv_iload hx hb dX8_carries_29 (lv_at hl 5 rfl) ?_
        refine lv_iload hx hb dX8_carries_31 (lv_at hl 0 rfl) ?_
        refine lv_iadd hx hb dX8_carries_33 ?_
        refine lv_topi (fun x_7 ex_7 => ?_)
        have qx_7 : x_7.toInt = 104 + i_3.toInt := by rw [ex_7]; exact zf_add (by decide) rfl (by omega) (by omega)
        refine lv_aload_n hx hb dX8_carries_34 rfl (lv_at hl 2 rfl) ?_
        refine lv_iload hx hb dX8_carries_35 (lv_at hl 0 rfl) ?_
        refine va_iald hx hb hK hP 0 0 rfl rfl (zf_in (by omega) (by omega)) dX8_carries_37 ?_
        refine lv_topi (fun x_8 ex_8 => ?_)
        refine va_iast hx hb hK hP hD hS 1 0 rfl rfl (zf_in (by omega) (by omega)) dX8_carries_38 (fun H locs hP hD hS => ?_)
        have h9R := zRe (ws' := [(of_, .inl (cI, 3, .inl fo)), (to_, .inl (cI, 130, .inl (upd g_1 x_7.toNatClampNeg x_8)))]) hP hD rfl
        clear hP hD
        obtain ⟨hP, hD⟩ := h9R
        obtain ⟨x_9, ex_9⟩ : ∃ y : Int32, y = i_3 + 1 := ⟨_, rfl⟩
        have qx_9 : x_9.toInt = i_3.toInt + 1 := dw_incK ex_9 fc_4 (by decide)
        refine lv_iinc (v := x_9) (lv' := [(6, .int x_9), (0, .ref m0), (1, .ref of_), (2, .int 3), (3, .ref to_), (4, .int 104), (5, .int 0)]) hx hb dX8_carries_39 hl (k := 0) rfl ex_9.symm (by decide) rfl (fun ls hl => ?_)
        refine lv_goto (tgt := 3) hx hb dX8_carries_42 (by decide) ?_
        exact ih x_9 ((upd g_1 x_7.toNatClampNeg x_8)) _ _ _ (hP.sub [0, 1] rfl) (hD.sub [0, 1] (by decide) rfl) hS (lv_sub hl [0, 1, 2, 3, 4, 5, 6] rfl) (show (∀ j : Nat, (upd g_1 x_7.toNatClampNeg x_8) j = zCar fo ft 104 x_9.toInt.toNat j) from by (intro j; have h8 : x_7.toNatClampNeg = 104 + i_3.toInt.toNat := (by (show x_7.toInt.toNat = _; omega)); have h7 := hvi_3_0 j; simp only [upd]; unfold zCar at h7 ⊢; exact (Classical.em (j = x_7.toNatClampNeg)).elim (fun e9 => by (rw [if_pos e9, if_pos (by omega), ex_8]; congr 1; (show i_3.toInt.toNat = _; omega))) (fun e9 => by (rw [if_neg e9, h7]; exact (Classical.em (104 ≤ j ∧ j < 104 + i_3.toInt.toNat)).elim (fun h6 => by rw [if_pos h6, if_pos (by omega)]) (fun h6 => by rw [if_neg h6, if_neg (by omega)]))))) (show x_9.toInt ≤ 3 from by omega) (dw_lo hloi_3 qx_9) (dw_hn hni_3 qx_9)
      · exact absurd c_6 (by decide)
set_option maxHeartbeats 4000000 in
set_option maxRecDepth 100000 in
theorem c_M_carb_3_104 (l : Launch) (D : va_G) (cI cJ cZ cP cS : ClassId) (po : zPool) (m0 of_ to_ : Nat) (fo ft : Nat → Int32) (hto : ∀ j : Nat, j < 3 → 0 ≤ (ft (104 + j)).toInt ∧ (ft (104 + j)).toInt ≤ 99) (hp_fo : zRg fo (0) 99) (hpz : Nat) : Met l yX8_carries wsX8_carries ({ frames := 0, cells := 0, slots := 0, locals := 0 }) (va_Pc [.ref m0, .ref of_, .int 3, .ref to_, .int 104, .int 1] (zW D (zKT cI cJ cZ cP cS) po [(of_, .inl (cI, 3, .inl fo)), (to_, .inl (cI, 130, .inl ft))] hpz)) (va_Qi (fun (r : Int32) (fo2 : (Nat → Int32)) => zRg fo2 (0) 99 ∧ ((∀ j : Nat, fo2 j = zCab ft fo 104 3 j)) ∧ (r = 107)) (zB D [(of_, .inl (cI, 3, .inl fo)), (to_, .inl (cI, 130, .inl ft))] hpz (fun (fo2 : Nat → Int32) => [(of_, .inl (cI, 3, .inl fo2)), (to_, .inl (cI, 130, .inl ft))])) (va_A [(of_, .inl (cI, 3, .inl fo)), (to_, .inl (cI, 130, .inl ft))] hpz)) 0 0 (va_A [(of_, .inl (cI, 3, .inl fo)), (to_, .inl (cI, 130, .inl ft))] hpz) := by
  refine Met.ofW (cc := cX8_carries) (maxL := 7) (ret := (some .int)) (by decide) rfl ?_
  intro p e s m args below meth c s₁ B hml hv
  obtain ⟨rfl, hsz, hP, hK, hD0, hN, hZ⟩ := hv
  have hx := B.exec
  have hb := B.bytes
  have hr := B.returns
  have hts := atoms_spec (ws := wsX8_carries) B.pre
  have hown : s.vm.findClass RX8 = some m.cls := findClass_of_methodNamed B.named
  have hlocks := B.notSynchronized
  subst hsz
  have hD := hD0.self (sz := s.heap.size)
  have hA := zA_of hD
  have hl := lv_entry ([.ref m0, .ref of_, .int 3, .ref to_, .int 104, .int 1]) (n := 7) (Nat.le_of_ble_eq_true rfl)
  rw [lg_entry_eq]
  generalize (lg_sl ([.ref m0, .ref of_, .int 3, .ref to_, .int 104, .int 1]) ++ List.replicate (7 - (lg_sl ([.ref m0, .ref of_, .int 3, .ref to_, .int 104, .int 1])).length) Slot.unset).toArray = ls at hl ⊢
  replace hl : lv_has ls 7 [(0, .ref m0), (1, .ref of_), (2, .int 3), (3, .ref to_), (4, .int 104), (5, .int 1)] := hl
  refine zw_begin hP hD (fun H locs hP1 hS => ?_)
  clear hP
  have hP := hP1
  clear hP1
  refine lv_iconst (v := 0) hx hb dX8_carries_0 (by decide) ?_
  refine lv_istore (lv' := [(6, .int 0), (0, .ref m0), (1, .ref of_), (2, .int 3), (3, .ref to_), (4, .int 104), (5, .int 1)]) hx hb dX8_carries_1 hl (by decide) rfl (fun ls hl => ?_)
  obtain ⟨i_3, hi_3⟩ : ∃ i : Int32, i = 0 := ⟨_, rfl⟩
  replace hl : lv_has ls 7 [(6, .int i_3), (0, .ref m0), (1, .ref of_), (2, .int 3), (3, .ref to_), (4, .int 104), (5, .int 1)] := by rw [hi_3]; exact lv_sub hl [0, 1, 2, 3, 4, 5, 6] rfl
  have h1i_3 : i_3.toInt = 0 := by rw [hi_3]; decide
  obtain ⟨nfu, hni_3⟩ : ∃ nq9 : Nat, 3 ≤ i_3.toInt + (nq9 : Int) := ⟨((3 : Int) - 0).toNat, by omega⟩
  have hloi_3 : 0 ≤ i_3.toInt := by omega
  obtain ⟨g_1, hg_1⟩ : ∃ g : Nat → Int32, g = fo := ⟨_, rfl⟩
  have hpg_1 : zRg g_1 (0) 99 := by rw [hg_1]; exact hp_fo
  replace hP : va_P D vwCl [(of_, .inl (cI, 3, .inl g_1)), (to_, .inl (cI, 130, .inl ft))] H := by rw [hg_1]; exact hP
  replace hD : va_D (va_A [(of_, .inl (cI, 3, .inl fo)), (to_, .inl (cI, 130, .inl ft))] s.heap.size) [(of_, .inl (cI, 3, .inl g_1)), (to_, .inl (cI, 130, .inl ft))] := by rw [hg_1]; exact hD
  have hvi_3_0 : (∀ j : Nat, g_1 j = zCab ft fo 104 i_3.toInt.toNat j) := by
    (try rw [hi_3]); (try rw [hg_1]); (intro j; unfold zCab; rw [if_neg (by have h8 : (0 : Int32).toInt.toNat = 0 := (by decide); omega)])
  have hvi_3_1 : i_3.toInt ≤ 3 := by
    (try rw [hi_3]); (try rw [hg_1]); first | omega | decide
  clear h1i_3 hi_3 hg_1
  skip
  revert hni_3
  revert hloi_3
  revert hvi_3_1
  revert hvi_3_0
  revert hpg_1
  revert hl
  revert hS
  revert hD
  revert hP
  revert ls
  revert locs
  revert H
  revert g_1
  revert i_3
  induction nfu with
  | zero =>
    intro i_3 g_1 H locs ls hP hD hS hl hpg_1 hvi_3_0 hvi_3_1 hloi_3 hni_3
    have hzi_3 : 3 ≤ i_3.toInt := by omega
    refine lv_iload hx hb dX8_carries_3 (lv_at hl 0 rfl) ?_
    refine lv_iload_n hx hb dX8_carries_5 rfl (lv_at hl 3 rfl) ?_
    refine lv_icmp_ge (tgt := 45) hx hb dX8_carries_6 (by decide) (fun c_2 => ?_) (fun c_2 => ?_)
    · have fc_2 : 3 ≤ i_3.toInt := zf_le c_2 (by decide) rfl
      refine lv_iload hx hb dX8_carries_45 (lv_at hl 5 rfl) ?_
      refine lv_iload_n hx hb dX8_carries_47 rfl (lv_at hl 3 rfl) ?_
      refine lv_iadd hx hb dX8_carries_48 ?_
      refine lv_topi (fun y_3 ey_3 => ?_)
      obtain rfl : y_3 = 107 := ey_3.trans (by decide)
      exact W.iret (v := 107) hx hb hr (fun t ht hW => ⟨⟨107, g_1, rfl, ⟨hpg_1, (show (∀ j : Nat, g_1 j = zCab ft fo 104 3 j) from by (intro j; have h8 := hvi_3_0 j; rw [show i_3.toInt.toNat = 3 from by omega] at h8; exact h8)), rfl⟩, zRet ht hP hD [0, 1] (by decide) rfl⟩, hS.F ht⟩) hS.2.2 dX8_carries_49
    · exfalso; have fc_2 : i_3.toInt < 3 := zf_nle c_2 (by decide) rfl; omega
  | succ nfu ih =>
    intro i_3 g_1 H locs ls hP hD hS hl hpg_1 hvi_3_0 hvi_3_1 hloi_3 hni_3
    refine lv_iload hx hb dX8_carries_3 (lv_at hl 0 rfl) ?_
    refine lv_iload_n hx hb dX8_carries_5 rfl (lv_at hl 3 rfl) ?_
    refine lv_icmp_ge (tgt := 45) hx hb dX8_carries_6 (by decide) (fun c_4 => ?_) (fun c_4 => ?_)
    · have fc_4 : 3 ≤ i_3.toInt := zf_le c_4 (by decide) rfl
      refine lv_iload hx hb dX8_carries_45 (lv_at hl 5 rfl) ?_
      refine lv_iload_n hx hb dX8_carries_47 rfl (lv_at hl 3 rfl) ?_
      refine lv_iadd hx hb dX8_carries_48 ?_
      refine lv_topi (fun y_5 ey_5 => ?_)
      obtain rfl : y_5 = 107 := ey_5.trans (by decide)
      exact W.iret (v := 107) hx hb hr (fun t ht hW => ⟨⟨107, g_1, rfl, ⟨hpg_1, (show (∀ j : Nat, g_1 j = zCab ft fo 104 3 j) from by (intro j; have h8 := hvi_3_0 j; rw [show i_3.toInt.toNat = 3 from by omega] at h8; exact h8)), rfl⟩, zRet ht hP hD [0, 1] (by decide) rfl⟩, hS.F ht⟩) hS.2.2 dX8_carries_49
    · have fc_4 : i_3.toInt < 3 := zf_nle c_4 (by decide) rfl
      refine lv_iload hx hb dX8_carries_9 (lv_at hl 6 rfl) ?_
      refine lv_if_eq (tgt := 28) hx hb dX8_carries_11 (by decide) (fun c_6 => ?_) (fun c_6 => ?_)
      · exact absurd c_6 (by decide)
      · refine lv_aload_n hx hb dX8_carries_14 rfl (lv_at hl 2 rfl) ?_
        refine lv_iload hx hb dX8_carries_15 (lv_at hl 0 rfl) ?_
        refine lv_aload_n hx hb dX8_carries_17 rfl (lv_at hl 4 rfl) ?_
        refine lv_iload hx hb dX8_carries_18 (lv_at hl 5 rfl) ?_
        refine lv_iload hx hb dX8_carries_20 (lv_at hl 0 rfl) ?_
        refine lv_iadd hx hb dX8_carries_22 ?_
        refine lv_topi (fun x_7 ex_7 => ?_)
        have qx_7 : x_7.toInt = 104 + i_3.toInt := by rw [ex_7]; exact zf_add (by decide) rfl (by omega) (by omega)
        refine va_iald hx hb hK hP 1 0 rfl rfl (zf_in (by omega) (by omega)) dX8_carries_23 ?_
        refine lv_topi (fun x_8 ex_8 => ?_)
        have bx_8 : 0 ≤ x_8.toInt ∧ x_8.toInt ≤ 99 := by rw [ex_8, show x_7.toNatClampNeg = 104 + i_3.toInt.toNat from by (show x_7.toInt.toNat = _; omega)]; exact hto _ (by omega)
        refine va_iast hx hb hK hP hD hS 0 0 rfl rfl (zf_in (by omega) (by omega)) dX8_carries_24 (fun H locs hP hD hS => ?_)
        have hpg_9 : zRg (upd g_1 i_3.toNatClampNeg x_8) (0) 99 := zRg_upd hpg_1 (by omega) (by omega)
        obtain ⟨g_9, hg_9⟩ : ∃ g : Nat → Int32, g = upd g_1 i_3.toNatClampNeg x_8 := ⟨_, rfl⟩
        rw [← hg_9] at hP hD hpg_9
        have h9R := zRe (ws' := [(of_, .inl (cI, 3, .inl g_9)), (to_, .inl (cI, 130, .inl ft))]) hP hD rfl
        clear hP hD
        obtain ⟨hP, hD⟩ := h9R
        refine lv_goto (tgt := 39) hx hb dX8_carries_25 (by decide) ?_
        obtain ⟨x_10, ex_10⟩ : ∃ y : Int32, y = i_3 + 1 := ⟨_, rfl⟩
        have qx_10 : x_10.toInt = i_3.toInt + 1 := dw_incK ex_10 fc_4 (by decide)
        refine lv_iinc (v := x_10) (lv' := [(6, .int x_10), (0, .ref m0), (1, .ref of_), (2, .int 3), (3, .ref to_), (4, .int 104), (5, .int 1)]) hx hb dX8_carries_39 hl (k := 0) rfl ex_10.symm (by decide) rfl (fun ls hl => ?_)
        refine lv_goto (tgt := 3) hx hb dX8_carries_42 (by decide) ?_
        exact ih x_10 (g_9) _ _ _ (hP.sub [0, 1] rfl) (hD.sub [0, 1] (by decide) rfl) hS (lv_sub hl [0, 1, 2, 3, 4, 5, 6] rfl) hpg_9 (show (∀ j : Nat, g_9 j = zCab ft fo 104 x_10.toInt.toNat j) from by (intro j; rw [hg_9]; have h8 : i_3.toNatClampNeg = i_3.toInt.toNat := rfl; have h7 := hvi_3_0 j; simp only [upd]; unfold zCab at h7 ⊢; exact (Classical.em (j = i_3.toNatClampNeg)).elim (fun e9 => by (rw [if_pos e9, if_pos (by omega), ex_8]; congr 1; (show x_7.toInt.toNat = _; omega))) (fun e9 => by (rw [if_neg e9, h7]; exact (Classical.em (j < i_3.toInt.toNat)).elim (fun h6 => by rw [if_pos h6, if_pos (by omega)]) (fun h6 => by rw [if_neg h6, if_neg (by omega)]))))) (show x_10.toInt ≤ 3 from by omega) (dw_lo hloi_3 qx_10) (dw_hn hni_3 qx_10)
end
section
theorem gl_X8_all_X80 : GoodIn wsX8_all wsX80 := (dg_t (dg_t (dg_t (dg_t (dg_t (dg_t (dg_t (dg_t (dg_t (dg_t (dg_t (dg_t (dg_t (dg_t (dg_t (dg_t (dg_t (dg_t (dg_t (dg_t (dg_t gw_wsX80)))))))))))))))))))))
theorem hi_X8_all_8 : ∀ w ∈ u_ws RX8 TX8 38, w ∈ wsX8_all := fun w h => (gl_X8_all_X80 w h).1
set_option maxHeartbeats 4000000 in
set_option maxRecDepth 100000 in
theorem c_M_all_f (l : Launch) (D : va_G) (cI cJ cZ cP cS : ClassId) (po : zPool) (m0 mrf mki mpa mta mla msl mco mhe mso msi msh mce mca mwo mnu mte mwa mke mma mth mtr : Nat) (npu nte nat_ nde nto nse nhu nga nsd nfa nba npl nen nnu nwr nra nik : Int32) (gki gpa gta gla gsl gco : Nat → Int32) (to_ : Nat) (ft : Nat → Int32) (hy0 : 0 ≤ npu.toInt) (hy1 : npu.toInt ≤ 8) (hy2 : 4 ≤ nte.toInt) (hy3 : nte.toInt ≤ 40) (hy4 : 0 ≤ nat_.toInt) (hy5 : nat_.toInt ≤ 40) (hy6 : 0 ≤ nde.toInt) (hy7 : nde.toInt ≤ 24) (hy8 : 0 ≤ nhu.toInt) (hy9 : nhu.toInt ≤ 9) (hy10 : 0 ≤ nra.toInt) (hy11 : nra.toInt ≤ 2000) (hy12 : 0 ≤ nik.toInt) (hy13 : nik.toInt ≤ 1) (hp_gki : zRg gki (0) 6) (hp_gpa : zRg gpa (0) 9) (hp_gta : zRg gta (0) 60) (hp_gla : zRg gla (0) 1) (hp_gsl : zRg gsl (0) 9) (hp_gco : zRg gco (0) 99) (hpz : Nat) : Met l yX8_all wsX8_all ({ frames := 1, cells := 0, slots := 0, locals := 26 }) (va_Pc [.ref m0, .ref to_, .int 0] (zW D (zKT cI cJ cZ cP cS) po [(zMO m0 npu nte nat_ nde nto nse nhu nga nsd nfa mrf mki mpa mta mla msl mco mhe mso msi msh mce mca mwo mnu mte nba npl nen nnu nwr mwa mke mma mth mtr nra nik), (mki, .inl (cI, 8, .inl gki)), (mpa, .inl (cI, 8, .inl gpa)), (mta, .inl (cI, 8, .inl gta)), (mla, .inl (cI, 40, .inl gla)), (msl, .inl (cI, 40, .inl gsl)), (mco, .inl (cI, 3, .inl gco)), (to_, .inl (cI, 130, .inl ft))] hpz)) (va_Qv (fun (ft2 : (Nat → Int32)) => ((∀ j : Nat, j < 116 → ft2 j = zAll gki gpa gta gla gsl gco npu nte nat_ nde nto nse nhu nga nsd j)) ∧ (True)) (zB D [(zMO m0 npu nte nat_ nde nto nse nhu nga nsd nfa mrf mki mpa mta mla msl mco mhe mso msi msh mce mca mwo mnu mte nba npl nen nnu nwr mwa mke mma mth mtr nra nik), (mki, .inl (cI, 8, .inl gki)), (mpa, .inl (cI, 8, .inl gpa)), (mta, .inl (cI, 8, .inl gta)), (mla, .inl (cI, 40, .inl gla)), (msl, .inl (cI, 40, .inl gsl)), (mco, .inl (cI, 3, .inl gco)), (to_, .inl (cI, 130, .inl ft))] hpz (fun (ft2 : Nat → Int32) => [(zMO m0 npu nte nat_ nde nto nse nhu nga nsd nfa mrf mki mpa mta mla msl mco mhe mso msi msh mce mca mwo mnu mte nba npl nen nnu nwr mwa mke mma mth mtr nra nik), (mki, .inl (cI, 8, .inl gki)), (mpa, .inl (cI, 8, .inl gpa)), (mta, .inl (cI, 8, .inl gta)), (mla, .inl (cI, 40, .inl gla)), (msl, .inl (cI, 40, .inl gsl)), (mco, .inl (cI, 3, .inl gco)), (to_, .inl (cI, 130, .inl ft2))])) (va_A [(zMO m0 npu nte nat_ nde nto nse nhu nga nsd nfa mrf mki mpa mta mla msl mco mhe mso msi msh mce mca mwo mnu mte nba npl nen nnu nwr mwa mke mma mth mtr nra nik), (mki, .inl (cI, 8, .inl gki)), (mpa, .inl (cI, 8, .inl gpa)), (mta, .inl (cI, 8, .inl gta)), (mla, .inl (cI, 40, .inl gla)), (msl, .inl (cI, 40, .inl gsl)), (mco, .inl (cI, 3, .inl gco)), (to_, .inl (cI, 130, .inl ft))] hpz)) 0 0 (va_A [(zMO m0 npu nte nat_ nde nto nse nhu nga nsd nfa mrf mki mpa mta mla msl mco mhe mso msi msh mce mca mwo mnu mte nba npl nen nnu nwr mwa mke mma mth mtr nra nik), (mki, .inl (cI, 8, .inl gki)), (mpa, .inl (cI, 8, .inl gpa)), (mta, .inl (cI, 8, .inl gta)), (mla, .inl (cI, 40, .inl gla)), (msl, .inl (cI, 40, .inl gsl)), (mco, .inl (cI, 3, .inl gco)), (to_, .inl (cI, 130, .inl ft))] hpz) := by
  refine Met.ofW (cc := cX8_all) (maxL := 4) (ret := none) (by decide) rfl ?_
  intro p e s m args below meth c s₁ B hml hv
  obtain ⟨rfl, hsz, hP, hK, hD0, hN, hZ⟩ := hv
  have hx := B.exec
  have hb := B.bytes
  have hr := B.returns
  have hts := atoms_spec (ws := wsX8_all) B.pre
  have hown : s.vm.findClass RX8 = some m.cls := findClass_of_methodNamed B.named
  have hlocks := B.notSynchronized
  subst hsz
  have hD := hD0.self (sz := s.heap.size)
  have hA := zA_of hD
  have hl := lv_entry ([.ref m0, .ref to_, .int 0]) (n := 4) (Nat.le_of_ble_eq_true rfl)
  rw [lg_entry_eq]
  generalize (lg_sl ([.ref m0, .ref to_, .int 0]) ++ List.replicate (4 - (lg_sl ([.ref m0, .ref to_, .int 0])).length) Slot.unset).toArray = ls at hl ⊢
  replace hl : lv_has ls 4 [(0, .ref m0), (1, .ref to_), (2, .int 0)] := hl
  refine zw_begin hP hD (fun H locs hP1 hS => ?_)
  clear hP
  have hP := hP1
  clear hP1
  refine lv_aload_n hx hb dX8_all_0 rfl (lv_at hl 0 rfl) ?_
  refine lv_aload_n hx hb dX8_all_1 rfl (lv_at hl 0 rfl) ?_
  refine va_get (D := D) (ci := 8) (v := .ref mki) (C := RX8) (T := TX8) (N := 38) hx hb hts hi_X8_all_8 hown hK hP 0 rfl rfl 11 (by decide) (hts (.fieldLink RX8 29 "TheLiningsInItModel" "kind" "[I") (List.mem_of_getElem? (i := 1) rfl)) (fun _ h9 => h9) rfl dX8_all_2 ?_
  refine lv_bipush (v := 8) hx hb dX8_all_5 (by decide) ?_
  refine lv_aload_n hx hb dX8_all_7 rfl (lv_at hl 1 rfl) ?_
  refine lv_iconst (v := 0) hx hb dX8_all_8 (by decide) ?_
  refine lv_iload_n hx hb dX8_all_9 rfl (lv_at hl 2 rfl) ?_
  skip
  refine zw_V (As := [.ref mki, .int 8, .ref to_, .int 0, .int 0]) (rest := []) (wr := [(zMO m0 npu nte nat_ nde nto nse nhu nga nsd nfa mrf mki mpa mta mla msl mco mhe mso msi msh mce mca mwo mnu mte nba npl nen nnu nwr mwa mke mma mth mtr nra nik), (mpa, .inl (cI, 8, .inl gpa)), (mta, .inl (cI, 8, .inl gta)), (mla, .inl (cI, 40, .inl gla)), (msl, .inl (cI, 40, .inl gsl)), (mco, .inl (cI, 3, .inl gco))]) ⟨hx, hb, hml, hown, hts⟩ (c_M_carf_8_0 l D cI cJ cZ cP cS po m0 mki to_ gki ft  H.size) (cwV 5 hts gX8_all_X8_carries rfl rfl rfl ⟨rfl, dh_X8_carries⟩ ⟨Nat.le_of_ble_eq_true rfl, Nat.le_of_ble_eq_true rfl⟩) hK hN (hZ.kept hS) hP hD hS hA [1, 7] [0, 2, 3, 4, 5, 6] rfl rfl (by decide) (by decide) (by decide) (va_recv (q := (RX8, TX8, 38)) hK hP (ci := 8) (q0 := 0) rfl rfl) rfl hl.1 rfl (Nat.le_of_ble_eq_true rfl) dX8_all_10 ⟨Nat.le_of_ble_eq_true rfl, Nat.le_of_ble_eq_true rfl⟩ (fun r_1 u_2 H locs hr_1 hP hD hS => ?_)
  obtain ⟨q_3, rfl⟩ : ∃ z, z = u_2 := ⟨_, rfl⟩
  obtain ⟨hsr_1_0, hr_1⟩ := hr_1
  have h9R := zRe (ws' := [(zMO m0 npu nte nat_ nde nto nse nhu nga nsd nfa mrf mki mpa mta mla msl mco mhe mso msi msh mce mca mwo mnu mte nba npl nen nnu nwr mwa mke mma mth mtr nra nik), (mpa, .inl (cI, 8, .inl gpa)), (mta, .inl (cI, 8, .inl gta)), (mla, .inl (cI, 40, .inl gla)), (msl, .inl (cI, 40, .inl gsl)), (mco, .inl (cI, 3, .inl gco)), (mki, .inl (cI, 8, .inl gki)), (to_, .inl (cI, 130, .inl q_3))]) hP hD rfl
  clear hP hD
  obtain ⟨hP, hD⟩ := h9R
  obtain rfl := hr_1
  refine lv_istore_n (lv' := [(3, .int 8), (0, .ref m0), (1, .ref to_), (2, .int 0)]) hx hb dX8_all_13 rfl hl (by decide) rfl (fun ls hl => ?_)
  refine lv_aload_n hx hb dX8_all_14 rfl (lv_at hl 1 rfl) ?_
  refine lv_aload_n hx hb dX8_all_15 rfl (lv_at hl 1 rfl) ?_
  refine va_get (D := D) (ci := 8) (v := .ref mpa) (C := RX8) (T := TX8) (N := 38) hx hb hts hi_X8_all_8 hown hK hP 0 rfl rfl 12 (by decide) (hts (.fieldLink RX8 32 "TheLiningsInItModel" "part" "[I") (List.mem_of_getElem? (i := 2) rfl)) (fun _ h9 => h9) rfl dX8_all_16 ?_
  refine lv_bipush (v := 8) hx hb dX8_all_19 (by decide) ?_
  refine lv_aload_n hx hb dX8_all_21 rfl (lv_at hl 2 rfl) ?_
  refine lv_iload_n hx hb dX8_all_22 rfl (lv_at hl 0 rfl) ?_
  refine lv_iload_n hx hb dX8_all_23 rfl (lv_at hl 3 rfl) ?_
  skip
  refine zw_V (As := [.ref mpa, .int 8, .ref to_, .int 8, .int 0]) (rest := []) (wr := [(zMO m0 npu nte nat_ nde nto nse nhu nga nsd nfa mrf mki mpa mta mla msl mco mhe mso msi msh mce mca mwo mnu mte nba npl nen nnu nwr mwa mke mma mth mtr nra nik), (mta, .inl (cI, 8, .inl gta)), (mla, .inl (cI, 40, .inl gla)), (msl, .inl (cI, 40, .inl gsl)), (mco, .inl (cI, 3, .inl gco)), (mki, .inl (cI, 8, .inl gki))]) ⟨hx, hb, hml, hown, hts⟩ (c_M_carf_8_8 l D cI cJ cZ cP cS po m0 mpa to_ gpa q_3  H.size) (cwV 5 hts gX8_all_X8_carries rfl rfl rfl ⟨rfl, dh_X8_carries⟩ ⟨Nat.le_of_ble_eq_true rfl, Nat.le_of_ble_eq_true rfl⟩) hK hN (hZ.kept hS) hP hD hS hA [1, 7] [0, 2, 3, 4, 5, 6] rfl rfl (by decide) (by decide) (by decide) (va_recv (q := (RX8, TX8, 38)) hK hP (ci := 8) (q0 := 0) rfl rfl) rfl hl.1 rfl (Nat.le_of_ble_eq_true rfl) dX8_all_24 ⟨Nat.le_of_ble_eq_true rfl, Nat.le_of_ble_eq_true rfl⟩ (fun r_4 u_5 H locs hr_4 hP hD hS => ?_)
  obtain ⟨q_6, rfl⟩ : ∃ z, z = u_5 := ⟨_, rfl⟩
  obtain ⟨hsr_4_0, hr_4⟩ := hr_4
  have h9R := zRe (ws' := [(zMO m0 npu nte nat_ nde nto nse nhu nga nsd nfa mrf mki mpa mta mla msl mco mhe mso msi msh mce mca mwo mnu mte nba npl nen nnu nwr mwa mke mma mth mtr nra nik), (mta, .inl (cI, 8, .inl gta)), (mla, .inl (cI, 40, .inl gla)), (msl, .inl (cI, 40, .inl gsl)), (mco, .inl (cI, 3, .inl gco)), (mki, .inl (cI, 8, .inl gki)), (mpa, .inl (cI, 8, .inl gpa)), (to_, .inl (cI, 130, .inl q_6))]) hP hD rfl
  clear hP hD
  obtain ⟨hP, hD⟩ := h9R
  obtain rfl := hr_4
  refine lv_istore_n (lv' := [(3, .int 16), (0, .ref m0), (1, .ref to_), (2, .int 0)]) hx hb dX8_all_27 rfl hl (by decide) rfl (fun ls hl => ?_)
  refine lv_aload_n hx hb dX8_all_28 rfl (lv_at hl 1 rfl) ?_
  refine lv_aload_n hx hb dX8_all_29 rfl (lv_at hl 1 rfl) ?_
  refine va_get (D := D) (ci := 8) (v := .ref mta) (C := RX8) (T := TX8) (N := 38) hx hb hts hi_X8_all_8 hown hK hP 0 rfl rfl 13 (by decide) (hts (.fieldLink RX8 35 "TheLiningsInItModel" "takes" "[I") (List.mem_of_getElem? (i := 3) rfl)) (fun _ h9 => h9) rfl dX8_all_30 ?_
  refine lv_bipush (v := 8) hx hb dX8_all_33 (by decide) ?_
  refine lv_aload_n hx hb dX8_all_35 rfl (lv_at hl 2 rfl) ?_
  refine lv_iload_n hx hb dX8_all_36 rfl (lv_at hl 0 rfl) ?_
  refine lv_iload_n hx hb dX8_all_37 rfl (lv_at hl 3 rfl) ?_
  skip
  refine zw_V (As := [.ref mta, .int 8, .ref to_, .int 16, .int 0]) (rest := []) (wr := [(zMO m0 npu nte nat_ nde nto nse nhu nga nsd nfa mrf mki mpa mta mla msl mco mhe mso msi msh mce mca mwo mnu mte nba npl nen nnu nwr mwa mke mma mth mtr nra nik), (mla, .inl (cI, 40, .inl gla)), (msl, .inl (cI, 40, .inl gsl)), (mco, .inl (cI, 3, .inl gco)), (mki, .inl (cI, 8, .inl gki)), (mpa, .inl (cI, 8, .inl gpa))]) ⟨hx, hb, hml, hown, hts⟩ (c_M_carf_8_16 l D cI cJ cZ cP cS po m0 mta to_ gta q_6  H.size) (cwV 5 hts gX8_all_X8_carries rfl rfl rfl ⟨rfl, dh_X8_carries⟩ ⟨Nat.le_of_ble_eq_true rfl, Nat.le_of_ble_eq_true rfl⟩) hK hN (hZ.kept hS) hP hD hS hA [1, 7] [0, 2, 3, 4, 5, 6] rfl rfl (by decide) (by decide) (by decide) (va_recv (q := (RX8, TX8, 38)) hK hP (ci := 8) (q0 := 0) rfl rfl) rfl hl.1 rfl (Nat.le_of_ble_eq_true rfl) dX8_all_38 ⟨Nat.le_of_ble_eq_true rfl, Nat.le_of_ble_eq_true rfl⟩ (fun r_7 u_8 H locs hr_7 hP hD hS => ?_)
  obtain ⟨q_9, rfl⟩ : ∃ z, z = u_8 := ⟨_, rfl⟩
  obtain ⟨hsr_7_0, hr_7⟩ := hr_7
  have h9R := zRe (ws' := [(zMO m0 npu nte nat_ nde nto nse nhu nga nsd nfa mrf mki mpa mta mla msl mco mhe mso msi msh mce mca mwo mnu mte nba npl nen nnu nwr mwa mke mma mth mtr nra nik), (mla, .inl (cI, 40, .inl gla)), (msl, .inl (cI, 40, .inl gsl)), (mco, .inl (cI, 3, .inl gco)), (mki, .inl (cI, 8, .inl gki)), (mpa, .inl (cI, 8, .inl gpa)), (mta, .inl (cI, 8, .inl gta)), (to_, .inl (cI, 130, .inl q_9))]) hP hD rfl
  clear hP hD
  obtain ⟨hP, hD⟩ := h9R
  obtain rfl := hr_7
  refine lv_istore_n (lv' := [(3, .int 24), (0, .ref m0), (1, .ref to_), (2, .int 0)]) hx hb dX8_all_41 rfl hl (by decide) rfl (fun ls hl => ?_)
  refine lv_aload_n hx hb dX8_all_42 rfl (lv_at hl 1 rfl) ?_
  refine lv_aload_n hx hb dX8_all_43 rfl (lv_at hl 1 rfl) ?_
  refine va_get (D := D) (ci := 8) (v := .ref mla) (C := RX8) (T := TX8) (N := 38) hx hb hts hi_X8_all_8 hown hK hP 0 rfl rfl 14 (by decide) (hts (.fieldLink RX8 38 "TheLiningsInItModel" "lacks" "[I") (List.mem_of_getElem? (i := 4) rfl)) (fun _ h9 => h9) rfl dX8_all_44 ?_
  refine lv_bipush (v := 40) hx hb dX8_all_47 (by decide) ?_
  refine lv_aload_n hx hb dX8_all_49 rfl (lv_at hl 2 rfl) ?_
  refine lv_iload_n hx hb dX8_all_50 rfl (lv_at hl 0 rfl) ?_
  refine lv_iload_n hx hb dX8_all_51 rfl (lv_at hl 3 rfl) ?_
  skip
  refine zw_V (As := [.ref mla, .int 40, .ref to_, .int 24, .int 0]) (rest := []) (wr := [(zMO m0 npu nte nat_ nde nto nse nhu nga nsd nfa mrf mki mpa mta mla msl mco mhe mso msi msh mce mca mwo mnu mte nba npl nen nnu nwr mwa mke mma mth mtr nra nik), (msl, .inl (cI, 40, .inl gsl)), (mco, .inl (cI, 3, .inl gco)), (mki, .inl (cI, 8, .inl gki)), (mpa, .inl (cI, 8, .inl gpa)), (mta, .inl (cI, 8, .inl gta))]) ⟨hx, hb, hml, hown, hts⟩ (c_M_carf_40_24 l D cI cJ cZ cP cS po m0 mla to_ gla q_9  H.size) (cwV 5 hts gX8_all_X8_carries rfl rfl rfl ⟨rfl, dh_X8_carries⟩ ⟨Nat.le_of_ble_eq_true rfl, Nat.le_of_ble_eq_true rfl⟩) hK hN (hZ.kept hS) hP hD hS hA [1, 7] [0, 2, 3, 4, 5, 6] rfl rfl (by decide) (by decide) (by decide) (va_recv (q := (RX8, TX8, 38)) hK hP (ci := 8) (q0 := 0) rfl rfl) rfl hl.1 rfl (Nat.le_of_ble_eq_true rfl) dX8_all_52 ⟨Nat.le_of_ble_eq_true rfl, Nat.le_of_ble_eq_true rfl⟩ (fun r_10 u_11 H locs hr_10 hP hD hS => ?_)
  obtain ⟨q_12, rfl⟩ : ∃ z, z = u_11 := ⟨_, rfl⟩
  obtain ⟨hsr_10_0, hr_10⟩ := hr_10
  have h9R := zRe (ws' := [(zMO m0 npu nte nat_ nde nto nse nhu nga nsd nfa mrf mki mpa mta mla msl mco mhe mso msi msh mce mca mwo mnu mte nba npl nen nnu nwr mwa mke mma mth mtr nra nik), (msl, .inl (cI, 40, .inl gsl)), (mco, .inl (cI, 3, .inl gco)), (mki, .inl (cI, 8, .inl gki)), (mpa, .inl (cI, 8, .inl gpa)), (mta, .inl (cI, 8, .inl gta)), (mla, .inl (cI, 40, .inl gla)), (to_, .inl (cI, 130, .inl q_12))]) hP hD rfl
  clear hP hD
  obtain ⟨hP, hD⟩ := h9R
  obtain rfl := hr_10
  refine lv_istore_n (lv' := [(3, .int 64), (0, .ref m0), (1, .ref to_), (2, .int 0)]) hx hb dX8_all_55 rfl hl (by decide) rfl (fun ls hl => ?_)
  refine lv_aload_n hx hb dX8_all_56 rfl (lv_at hl 1 rfl) ?_
  refine lv_aload_n hx hb dX8_all_57 rfl (lv_at hl 1 rfl) ?_
  refine va_get (D := D) (ci := 8) (v := .ref msl) (C := RX8) (T := TX8) (N := 38) hx hb hts hi_X8_all_8 hown hK hP 0 rfl rfl 15 (by decide) (hts (.fieldLink RX8 41 "TheLiningsInItModel" "slack" "[I") (List.mem_of_getElem? (i := 5) rfl)) (fun _ h9 => h9) rfl dX8_all_58 ?_
  refine lv_bipush (v := 40) hx hb dX8_all_61 (by decide) ?_
  refine lv_aload_n hx hb dX8_all_63 rfl (lv_at hl 2 rfl) ?_
  refine lv_iload_n hx hb dX8_all_64 rfl (lv_at hl 0 rfl) ?_
  refine lv_iload_n hx hb dX8_all_65 rfl (lv_at hl 3 rfl) ?_
  skip
  refine zw_V (As := [.ref msl, .int 40, .ref to_, .int 64, .int 0]) (rest := []) (wr := [(zMO m0 npu nte nat_ nde nto nse nhu nga nsd nfa mrf mki mpa mta mla msl mco mhe mso msi msh mce mca mwo mnu mte nba npl nen nnu nwr mwa mke mma mth mtr nra nik), (mco, .inl (cI, 3, .inl gco)), (mki, .inl (cI, 8, .inl gki)), (mpa, .inl (cI, 8, .inl gpa)), (mta, .inl (cI, 8, .inl gta)), (mla, .inl (cI, 40, .inl gla))]) ⟨hx, hb, hml, hown, hts⟩ (c_M_carf_40_64 l D cI cJ cZ cP cS po m0 msl to_ gsl q_12  H.size) (cwV 5 hts gX8_all_X8_carries rfl rfl rfl ⟨rfl, dh_X8_carries⟩ ⟨Nat.le_of_ble_eq_true rfl, Nat.le_of_ble_eq_true rfl⟩) hK hN (hZ.kept hS) hP hD hS hA [1, 7] [0, 2, 3, 4, 5, 6] rfl rfl (by decide) (by decide) (by decide) (va_recv (q := (RX8, TX8, 38)) hK hP (ci := 8) (q0 := 0) rfl rfl) rfl hl.1 rfl (Nat.le_of_ble_eq_true rfl) dX8_all_66 ⟨Nat.le_of_ble_eq_true rfl, Nat.le_of_ble_eq_true rfl⟩ (fun r_13 u_14 H locs hr_13 hP hD hS => ?_)
  obtain ⟨q_15, rfl⟩ : ∃ z, z = u_14 := ⟨_, rfl⟩
  obtain ⟨hsr_13_0, hr_13⟩ := hr_13
  have h9R := zRe (ws' := [(zMO m0 npu nte nat_ nde nto nse nhu nga nsd nfa mrf mki mpa mta mla msl mco mhe mso msi msh mce mca mwo mnu mte nba npl nen nnu nwr mwa mke mma mth mtr nra nik), (mco, .inl (cI, 3, .inl gco)), (mki, .inl (cI, 8, .inl gki)), (mpa, .inl (cI, 8, .inl gpa)), (mta, .inl (cI, 8, .inl gta)), (mla, .inl (cI, 40, .inl gla)), (msl, .inl (cI, 40, .inl gsl)), (to_, .inl (cI, 130, .inl q_15))]) hP hD rfl
  clear hP hD
  obtain ⟨hP, hD⟩ := h9R
  obtain rfl := hr_13
  refine lv_istore_n (lv' := [(3, .int 104), (0, .ref m0), (1, .ref to_), (2, .int 0)]) hx hb dX8_all_69 rfl hl (by decide) rfl (fun ls hl => ?_)
  refine lv_aload_n hx hb dX8_all_70 rfl (lv_at hl 1 rfl) ?_
  refine lv_aload_n hx hb dX8_all_71 rfl (lv_at hl 1 rfl) ?_
  refine va_get (D := D) (ci := 8) (v := .ref mco) (C := RX8) (T := TX8) (N := 38) hx hb hts hi_X8_all_8 hown hK hP 0 rfl rfl 16 (by decide) (hts (.fieldLink RX8 44 "TheLiningsInItModel" "cost" "[I") (List.mem_of_getElem? (i := 6) rfl)) (fun _ h9 => h9) rfl dX8_all_72 ?_
  refine lv_iconst (v := 3) hx hb dX8_all_75 (by decide) ?_
  refine lv_aload_n hx hb dX8_all_76 rfl (lv_at hl 2 rfl) ?_
  refine lv_iload_n hx hb dX8_all_77 rfl (lv_at hl 0 rfl) ?_
  refine lv_iload_n hx hb dX8_all_78 rfl (lv_at hl 3 rfl) ?_
  skip
  refine zw_V (As := [.ref mco, .int 3, .ref to_, .int 104, .int 0]) (rest := []) (wr := [(zMO m0 npu nte nat_ nde nto nse nhu nga nsd nfa mrf mki mpa mta mla msl mco mhe mso msi msh mce mca mwo mnu mte nba npl nen nnu nwr mwa mke mma mth mtr nra nik), (mki, .inl (cI, 8, .inl gki)), (mpa, .inl (cI, 8, .inl gpa)), (mta, .inl (cI, 8, .inl gta)), (mla, .inl (cI, 40, .inl gla)), (msl, .inl (cI, 40, .inl gsl))]) ⟨hx, hb, hml, hown, hts⟩ (c_M_carf_3_104 l D cI cJ cZ cP cS po m0 mco to_ gco q_15  H.size) (cwV 5 hts gX8_all_X8_carries rfl rfl rfl ⟨rfl, dh_X8_carries⟩ ⟨Nat.le_of_ble_eq_true rfl, Nat.le_of_ble_eq_true rfl⟩) hK hN (hZ.kept hS) hP hD hS hA [1, 7] [0, 2, 3, 4, 5, 6] rfl rfl (by decide) (by decide) (by decide) (va_recv (q := (RX8, TX8, 38)) hK hP (ci := 8) (q0 := 0) rfl rfl) rfl hl.1 rfl (Nat.le_of_ble_eq_true rfl) dX8_all_79 ⟨Nat.le_of_ble_eq_true rfl, Nat.le_of_ble_eq_true rfl⟩ (fun r_16 u_17 H locs hr_16 hP hD hS => ?_)
  obtain ⟨q_18, rfl⟩ : ∃ z, z = u_17 := ⟨_, rfl⟩
  obtain ⟨hsr_16_0, hr_16⟩ := hr_16
  have h9R := zRe (ws' := [(zMO m0 npu nte nat_ nde nto nse nhu nga nsd nfa mrf mki mpa mta mla msl mco mhe mso msi msh mce mca mwo mnu mte nba npl nen nnu nwr mwa mke mma mth mtr nra nik), (mki, .inl (cI, 8, .inl gki)), (mpa, .inl (cI, 8, .inl gpa)), (mta, .inl (cI, 8, .inl gta)), (mla, .inl (cI, 40, .inl gla)), (msl, .inl (cI, 40, .inl gsl)), (mco, .inl (cI, 3, .inl gco)), (to_, .inl (cI, 130, .inl q_18))]) hP hD rfl
  clear hP hD
  obtain ⟨hP, hD⟩ := h9R
  obtain rfl := hr_16
  refine lv_istore_n (lv' := [(3, .int 107), (0, .ref m0), (1, .ref to_), (2, .int 0)]) hx hb dX8_all_82 rfl hl (by decide) rfl (fun ls hl => ?_)
  refine lv_iload_n hx hb dX8_all_83 rfl (lv_at hl 3 rfl) ?_
  refine lv_if_eq (tgt := 172) hx hb dX8_all_84 (by decide) (fun c_19 => ?_) (fun c_19 => ?_)
  · refine lv_aload_n hx hb dX8_all_172 rfl (lv_at hl 2 rfl) ?_
    refine lv_iload_n hx hb dX8_all_173 rfl (lv_at hl 0 rfl) ?_
    refine lv_aload_n hx hb dX8_all_174 rfl (lv_at hl 1 rfl) ?_
    refine va_get (D := D) (ci := 8) (v := .int npu) (C := RX8) (T := TX8) (N := 38) hx hb hts hi_X8_all_8 hown hK hP 0 rfl rfl 0 (by decide) (hts (.fieldLink RX8 90 "TheLiningsInItModel" "pulls" "I") (List.mem_of_getElem? (i := 7) rfl)) (fun _ h9 => h9) rfl dX8_all_175 ?_
    refine va_iast hx hb hK hP hD hS 7 0 rfl rfl (zf_in (by decide) (by decide)) dX8_all_178 (fun H locs hP hD hS => ?_)
    have h9R := zRe (ws' := [(zMO m0 npu nte nat_ nde nto nse nhu nga nsd nfa mrf mki mpa mta mla msl mco mhe mso msi msh mce mca mwo mnu mte nba npl nen nnu nwr mwa mke mma mth mtr nra nik), (mki, .inl (cI, 8, .inl gki)), (mpa, .inl (cI, 8, .inl gpa)), (mta, .inl (cI, 8, .inl gta)), (mla, .inl (cI, 40, .inl gla)), (msl, .inl (cI, 40, .inl gsl)), (mco, .inl (cI, 3, .inl gco)), (to_, .inl (cI, 130, .inl (upd q_18 (107 : Int32).toNatClampNeg npu)))]) hP hD rfl
    clear hP hD
    obtain ⟨hP, hD⟩ := h9R
    refine lv_aload_n hx hb dX8_all_179 rfl (lv_at hl 2 rfl) ?_
    refine lv_iload_n hx hb dX8_all_180 rfl (lv_at hl 0 rfl) ?_
    refine lv_iconst (v := 1) hx hb dX8_all_181 (by decide) ?_
    refine lv_iadd hx hb dX8_all_182 ?_
    refine lv_topi (fun y_20 ey_20 => ?_)
    obtain rfl : y_20 = 108 := ey_20.trans (by decide)
    refine lv_aload_n hx hb dX8_all_183 rfl (lv_at hl 1 rfl) ?_
    refine va_get (D := D) (ci := 8) (v := .int nte) (C := RX8) (T := TX8) (N := 38) hx hb hts hi_X8_all_8 hown hK hP 0 rfl rfl 1 (by decide) (hts (.fieldLink RX8 7 "TheLiningsInItModel" "teeth" "I") (List.mem_of_getElem? (i := 8) rfl)) (fun _ h9 => h9) rfl dX8_all_184 ?_
    refine va_iast hx hb hK hP hD hS 7 0 rfl rfl (zf_in (by decide) (by decide)) dX8_all_187 (fun H locs hP hD hS => ?_)
    have h9R := zRe (ws' := [(zMO m0 npu nte nat_ nde nto nse nhu nga nsd nfa mrf mki mpa mta mla msl mco mhe mso msi msh mce mca mwo mnu mte nba npl nen nnu nwr mwa mke mma mth mtr nra nik), (mki, .inl (cI, 8, .inl gki)), (mpa, .inl (cI, 8, .inl gpa)), (mta, .inl (cI, 8, .inl gta)), (mla, .inl (cI, 40, .inl gla)), (msl, .inl (cI, 40, .inl gsl)), (mco, .inl (cI, 3, .inl gco)), (to_, .inl (cI, 130, .inl (upd (upd q_18 (107 : Int32).toNatClampNeg npu) (108 : Int32).toNatClampNeg nte)))]) hP hD rfl
    clear hP hD
    obtain ⟨hP, hD⟩ := h9R
    refine lv_aload_n hx hb dX8_all_188 rfl (lv_at hl 2 rfl) ?_
    refine lv_iload_n hx hb dX8_all_189 rfl (lv_at hl 0 rfl) ?_
    refine lv_iconst (v := 2) hx hb dX8_all_190 (by decide) ?_
    refine lv_iadd hx hb dX8_all_191 ?_
    refine lv_topi (fun y_21 ey_21 => ?_)
    obtain rfl : y_21 = 109 := ey_21.trans (by decide)
    refine lv_aload_n hx hb dX8_all_192 rfl (lv_at hl 1 rfl) ?_
    refine va_get (D := D) (ci := 8) (v := .int nat_) (C := RX8) (T := TX8) (N := 38) hx hb hts hi_X8_all_8 hown hK hP 0 rfl rfl 2 (by decide) (hts (.fieldLink RX8 122 "TheLiningsInItModel" "at" "I") (List.mem_of_getElem? (i := 9) rfl)) (fun _ h9 => h9) rfl dX8_all_193 ?_
    refine va_iast hx hb hK hP hD hS 7 0 rfl rfl (zf_in (by decide) (by decide)) dX8_all_196 (fun H locs hP hD hS => ?_)
    have h9R := zRe (ws' := [(zMO m0 npu nte nat_ nde nto nse nhu nga nsd nfa mrf mki mpa mta mla msl mco mhe mso msi msh mce mca mwo mnu mte nba npl nen nnu nwr mwa mke mma mth mtr nra nik), (mki, .inl (cI, 8, .inl gki)), (mpa, .inl (cI, 8, .inl gpa)), (mta, .inl (cI, 8, .inl gta)), (mla, .inl (cI, 40, .inl gla)), (msl, .inl (cI, 40, .inl gsl)), (mco, .inl (cI, 3, .inl gco)), (to_, .inl (cI, 130, .inl (upd (upd (upd q_18 (107 : Int32).toNatClampNeg npu) (108 : Int32).toNatClampNeg nte) (109 : Int32).toNatClampNeg nat_)))]) hP hD rfl
    clear hP hD
    obtain ⟨hP, hD⟩ := h9R
    refine lv_aload_n hx hb dX8_all_197 rfl (lv_at hl 2 rfl) ?_
    refine lv_iload_n hx hb dX8_all_198 rfl (lv_at hl 0 rfl) ?_
    refine lv_iconst (v := 3) hx hb dX8_all_199 (by decide) ?_
    refine lv_iadd hx hb dX8_all_200 ?_
    refine lv_topi (fun y_22 ey_22 => ?_)
    obtain rfl : y_22 = 110 := ey_22.trans (by decide)
    refine lv_aload_n hx hb dX8_all_201 rfl (lv_at hl 1 rfl) ?_
    refine va_get (D := D) (ci := 8) (v := .int nde) (C := RX8) (T := TX8) (N := 38) hx hb hts hi_X8_all_8 hown hK hP 0 rfl rfl 3 (by decide) (hts (.fieldLink RX8 115 "TheLiningsInItModel" "depth" "I") (List.mem_of_getElem? (i := 10) rfl)) (fun _ h9 => h9) rfl dX8_all_202 ?_
    refine va_iast hx hb hK hP hD hS 7 0 rfl rfl (zf_in (by decide) (by decide)) dX8_all_205 (fun H locs hP hD hS => ?_)
    have h9R := zRe (ws' := [(zMO m0 npu nte nat_ nde nto nse nhu nga nsd nfa mrf mki mpa mta mla msl mco mhe mso msi msh mce mca mwo mnu mte nba npl nen nnu nwr mwa mke mma mth mtr nra nik), (mki, .inl (cI, 8, .inl gki)), (mpa, .inl (cI, 8, .inl gpa)), (mta, .inl (cI, 8, .inl gta)), (mla, .inl (cI, 40, .inl gla)), (msl, .inl (cI, 40, .inl gsl)), (mco, .inl (cI, 3, .inl gco)), (to_, .inl (cI, 130, .inl (upd (upd (upd (upd q_18 (107 : Int32).toNatClampNeg npu) (108 : Int32).toNatClampNeg nte) (109 : Int32).toNatClampNeg nat_) (110 : Int32).toNatClampNeg nde)))]) hP hD rfl
    clear hP hD
    obtain ⟨hP, hD⟩ := h9R
    refine lv_aload_n hx hb dX8_all_206 rfl (lv_at hl 2 rfl) ?_
    refine lv_iload_n hx hb dX8_all_207 rfl (lv_at hl 0 rfl) ?_
    refine lv_iconst (v := 4) hx hb dX8_all_208 (by decide) ?_
    refine lv_iadd hx hb dX8_all_209 ?_
    refine lv_topi (fun y_23 ey_23 => ?_)
    obtain rfl : y_23 = 111 := ey_23.trans (by decide)
    refine lv_aload_n hx hb dX8_all_210 rfl (lv_at hl 1 rfl) ?_
    refine va_get (D := D) (ci := 8) (v := .int nto) (C := RX8) (T := TX8) (N := 38) hx hb hts hi_X8_all_8 hown hK hP 0 rfl rfl 4 (by decide) (hts (.fieldLink RX8 188 "TheLiningsInItModel" "torn" "I") (List.mem_of_getElem? (i := 11) rfl)) (fun _ h9 => h9) rfl dX8_all_211 ?_
    refine va_iast hx hb hK hP hD hS 7 0 rfl rfl (zf_in (by decide) (by decide)) dX8_all_214 (fun H locs hP hD hS => ?_)
    have h9R := zRe (ws' := [(zMO m0 npu nte nat_ nde nto nse nhu nga nsd nfa mrf mki mpa mta mla msl mco mhe mso msi msh mce mca mwo mnu mte nba npl nen nnu nwr mwa mke mma mth mtr nra nik), (mki, .inl (cI, 8, .inl gki)), (mpa, .inl (cI, 8, .inl gpa)), (mta, .inl (cI, 8, .inl gta)), (mla, .inl (cI, 40, .inl gla)), (msl, .inl (cI, 40, .inl gsl)), (mco, .inl (cI, 3, .inl gco)), (to_, .inl (cI, 130, .inl (upd (upd (upd (upd (upd q_18 (107 : Int32).toNatClampNeg npu) (108 : Int32).toNatClampNeg nte) (109 : Int32).toNatClampNeg nat_) (110 : Int32).toNatClampNeg nde) (111 : Int32).toNatClampNeg nto)))]) hP hD rfl
    clear hP hD
    obtain ⟨hP, hD⟩ := h9R
    refine lv_aload_n hx hb dX8_all_215 rfl (lv_at hl 2 rfl) ?_
    refine lv_iload_n hx hb dX8_all_216 rfl (lv_at hl 0 rfl) ?_
    refine lv_iconst (v := 5) hx hb dX8_all_217 (by decide) ?_
    refine lv_iadd hx hb dX8_all_218 ?_
    refine lv_topi (fun y_24 ey_24 => ?_)
    obtain rfl : y_24 = 112 := ey_24.trans (by decide)
    refine lv_aload_n hx hb dX8_all_219 rfl (lv_at hl 1 rfl) ?_
    refine va_get (D := D) (ci := 8) (v := .int nse) (C := RX8) (T := TX8) (N := 38) hx hb hts hi_X8_all_8 hown hK hP 0 rfl rfl 5 (by decide) (hts (.fieldLink RX8 13 "TheLiningsInItModel" "seconds" "I") (List.mem_of_getElem? (i := 12) rfl)) (fun _ h9 => h9) rfl dX8_all_220 ?_
    refine va_iast hx hb hK hP hD hS 7 0 rfl rfl (zf_in (by decide) (by decide)) dX8_all_223 (fun H locs hP hD hS => ?_)
    have h9R := zRe (ws' := [(zMO m0 npu nte nat_ nde nto nse nhu nga nsd nfa mrf mki mpa mta mla msl mco mhe mso msi msh mce mca mwo mnu mte nba npl nen nnu nwr mwa mke mma mth mtr nra nik), (mki, .inl (cI, 8, .inl gki)), (mpa, .inl (cI, 8, .inl gpa)), (mta, .inl (cI, 8, .inl gta)), (mla, .inl (cI, 40, .inl gla)), (msl, .inl (cI, 40, .inl gsl)), (mco, .inl (cI, 3, .inl gco)), (to_, .inl (cI, 130, .inl (upd (upd (upd (upd (upd (upd q_18 (107 : Int32).toNatClampNeg npu) (108 : Int32).toNatClampNeg nte) (109 : Int32).toNatClampNeg nat_) (110 : Int32).toNatClampNeg nde) (111 : Int32).toNatClampNeg nto) (112 : Int32).toNatClampNeg nse)))]) hP hD rfl
    clear hP hD
    obtain ⟨hP, hD⟩ := h9R
    refine lv_aload_n hx hb dX8_all_224 rfl (lv_at hl 2 rfl) ?_
    refine lv_iload_n hx hb dX8_all_225 rfl (lv_at hl 0 rfl) ?_
    refine lv_bipush (v := 6) hx hb dX8_all_226 (by decide) ?_
    refine lv_iadd hx hb dX8_all_228 ?_
    refine lv_topi (fun y_25 ey_25 => ?_)
    obtain rfl : y_25 = 113 := ey_25.trans (by decide)
    refine lv_aload_n hx hb dX8_all_229 rfl (lv_at hl 1 rfl) ?_
    refine va_get (D := D) (ci := 8) (v := .int nhu) (C := RX8) (T := TX8) (N := 38) hx hb hts hi_X8_all_8 hown hK hP 0 rfl rfl 6 (by decide) (hts (.fieldLink RX8 135 "TheLiningsInItModel" "hurry" "I") (List.mem_of_getElem? (i := 13) rfl)) (fun _ h9 => h9) rfl dX8_all_230 ?_
    refine va_iast hx hb hK hP hD hS 7 0 rfl rfl (zf_in (by decide) (by decide)) dX8_all_233 (fun H locs hP hD hS => ?_)
    have h9R := zRe (ws' := [(zMO m0 npu nte nat_ nde nto nse nhu nga nsd nfa mrf mki mpa mta mla msl mco mhe mso msi msh mce mca mwo mnu mte nba npl nen nnu nwr mwa mke mma mth mtr nra nik), (mki, .inl (cI, 8, .inl gki)), (mpa, .inl (cI, 8, .inl gpa)), (mta, .inl (cI, 8, .inl gta)), (mla, .inl (cI, 40, .inl gla)), (msl, .inl (cI, 40, .inl gsl)), (mco, .inl (cI, 3, .inl gco)), (to_, .inl (cI, 130, .inl (upd (upd (upd (upd (upd (upd (upd q_18 (107 : Int32).toNatClampNeg npu) (108 : Int32).toNatClampNeg nte) (109 : Int32).toNatClampNeg nat_) (110 : Int32).toNatClampNeg nde) (111 : Int32).toNatClampNeg nto) (112 : Int32).toNatClampNeg nse) (113 : Int32).toNatClampNeg nhu)))]) hP hD rfl
    clear hP hD
    obtain ⟨hP, hD⟩ := h9R
    refine lv_aload_n hx hb dX8_all_234 rfl (lv_at hl 2 rfl) ?_
    refine lv_iload_n hx hb dX8_all_235 rfl (lv_at hl 0 rfl) ?_
    refine lv_bipush (v := 7) hx hb dX8_all_236 (by decide) ?_
    refine lv_iadd hx hb dX8_all_238 ?_
    refine lv_topi (fun y_26 ey_26 => ?_)
    obtain rfl : y_26 = 114 := ey_26.trans (by decide)
    refine lv_aload_n hx hb dX8_all_239 rfl (lv_at hl 1 rfl) ?_
    refine va_get (D := D) (ci := 8) (v := .int nga) (C := RX8) (T := TX8) (N := 38) hx hb hts hi_X8_all_8 hown hK hP 0 rfl rfl 7 (by decide) (hts (.fieldLink RX8 16 "TheLiningsInItModel" "gap" "I") (List.mem_of_getElem? (i := 14) rfl)) (fun _ h9 => h9) rfl dX8_all_240 ?_
    refine va_iast hx hb hK hP hD hS 7 0 rfl rfl (zf_in (by decide) (by decide)) dX8_all_243 (fun H locs hP hD hS => ?_)
    have h9R := zRe (ws' := [(zMO m0 npu nte nat_ nde nto nse nhu nga nsd nfa mrf mki mpa mta mla msl mco mhe mso msi msh mce mca mwo mnu mte nba npl nen nnu nwr mwa mke mma mth mtr nra nik), (mki, .inl (cI, 8, .inl gki)), (mpa, .inl (cI, 8, .inl gpa)), (mta, .inl (cI, 8, .inl gta)), (mla, .inl (cI, 40, .inl gla)), (msl, .inl (cI, 40, .inl gsl)), (mco, .inl (cI, 3, .inl gco)), (to_, .inl (cI, 130, .inl (upd (upd (upd (upd (upd (upd (upd (upd q_18 (107 : Int32).toNatClampNeg npu) (108 : Int32).toNatClampNeg nte) (109 : Int32).toNatClampNeg nat_) (110 : Int32).toNatClampNeg nde) (111 : Int32).toNatClampNeg nto) (112 : Int32).toNatClampNeg nse) (113 : Int32).toNatClampNeg nhu) (114 : Int32).toNatClampNeg nga)))]) hP hD rfl
    clear hP hD
    obtain ⟨hP, hD⟩ := h9R
    refine lv_aload_n hx hb dX8_all_244 rfl (lv_at hl 2 rfl) ?_
    refine lv_iload_n hx hb dX8_all_245 rfl (lv_at hl 0 rfl) ?_
    refine lv_bipush (v := 8) hx hb dX8_all_246 (by decide) ?_
    refine lv_iadd hx hb dX8_all_248 ?_
    refine lv_topi (fun y_27 ey_27 => ?_)
    obtain rfl : y_27 = 115 := ey_27.trans (by decide)
    refine lv_aload_n hx hb dX8_all_249 rfl (lv_at hl 1 rfl) ?_
    refine va_get (D := D) (ci := 8) (v := .int nsd) (C := RX8) (T := TX8) (N := 38) hx hb hts hi_X8_all_8 hown hK hP 0 rfl rfl 8 (by decide) (hts (.fieldLink RX8 19 "TheLiningsInItModel" "seed" "I") (List.mem_of_getElem? (i := 15) rfl)) (fun _ h9 => h9) rfl dX8_all_250 ?_
    refine va_iast hx hb hK hP hD hS 7 0 rfl rfl (zf_in (by decide) (by decide)) dX8_all_253 (fun H locs hP hD hS => ?_)
    have h9R := zRe (ws' := [(zMO m0 npu nte nat_ nde nto nse nhu nga nsd nfa mrf mki mpa mta mla msl mco mhe mso msi msh mce mca mwo mnu mte nba npl nen nnu nwr mwa mke mma mth mtr nra nik), (mki, .inl (cI, 8, .inl gki)), (mpa, .inl (cI, 8, .inl gpa)), (mta, .inl (cI, 8, .inl gta)), (mla, .inl (cI, 40, .inl gla)), (msl, .inl (cI, 40, .inl gsl)), (mco, .inl (cI, 3, .inl gco)), (to_, .inl (cI, 130, .inl (upd (upd (upd (upd (upd (upd (upd (upd (upd q_18 (107 : Int32).toNatClampNeg npu) (108 : Int32).toNatClampNeg nte) (109 : Int32).toNatClampNeg nat_) (110 : Int32).toNatClampNeg nde) (111 : Int32).toNatClampNeg nto) (112 : Int32).toNatClampNeg nse) (113 : Int32).toNatClampNeg nhu) (114 : Int32).toNatClampNeg nga) (115 : Int32).toNatClampNeg nsd)))]) hP hD rfl
    clear hP hD
    obtain ⟨hP, hD⟩ := h9R
    exact W.vret hx hb hr (fun t ht hW => ⟨⟨(upd (upd (upd (upd (upd (upd (upd (upd (upd q_18 (107 : Int32).toNatClampNeg npu) (108 : Int32).toNatClampNeg nte) (109 : Int32).toNatClampNeg nat_) (110 : Int32).toNatClampNeg nde) (111 : Int32).toNatClampNeg nto) (112 : Int32).toNatClampNeg nse) (113 : Int32).toNatClampNeg nhu) (114 : Int32).toNatClampNeg nga) (115 : Int32).toNatClampNeg nsd), rfl, ⟨(show (∀ j : Nat, j < 116 → (upd (upd (upd (upd (upd (upd (upd (upd (upd q_18 (107 : Int32).toNatClampNeg npu) (108 : Int32).toNatClampNeg nte) (109 : Int32).toNatClampNeg nat_) (110 : Int32).toNatClampNeg nde) (111 : Int32).toNatClampNeg nto) (112 : Int32).toNatClampNeg nse) (113 : Int32).toNatClampNeg nhu) (114 : Int32).toNatClampNeg nga) (115 : Int32).toNatClampNeg nsd) j = zAll gki gpa gta gla gsl gco npu nte nat_ nde nto nse nhu nga nsd j) from by (intro j hj; have e107 : (107 : Int32).toNatClampNeg = 107 := (by decide); have e108 : (108 : Int32).toNatClampNeg = 108 := (by decide); have e109 : (109 : Int32).toNatClampNeg = 109 := (by decide); have e110 : (110 : Int32).toNatClampNeg = 110 := (by decide); have e111 : (111 : Int32).toNatClampNeg = 111 := (by decide); have e112 : (112 : Int32).toNatClampNeg = 112 := (by decide); have e113 : (113 : Int32).toNatClampNeg = 113 := (by decide); have e114 : (114 : Int32).toNatClampNeg = 114 := (by decide); have e115 : (115 : Int32).toNatClampNeg = 115 := (by decide); simp only [upd, e107, e108, e109, e110, e111, e112, e113, e114, e115, hsr_16_0, hsr_13_0, hsr_10_0, hsr_7_0, hsr_4_0, hsr_1_0, zCar]; unfold zAll; exact zseg hj (fun h1 => by ((repeat (first | rw [if_pos (by omega)] | rw [if_neg (by omega)])) <;> first | rfl | (congr 1; omega))) (fun g1 h2 => by ((repeat (first | rw [if_pos (by omega)] | rw [if_neg (by omega)])) <;> first | rfl | (congr 1; omega))) (fun g2 h3 => by ((repeat (first | rw [if_pos (by omega)] | rw [if_neg (by omega)])) <;> first | rfl | (congr 1; omega))) (fun g3 h4 => by ((repeat (first | rw [if_pos (by omega)] | rw [if_neg (by omega)])) <;> first | rfl | (congr 1; omega))) (fun g4 h5 => by ((repeat (first | rw [if_pos (by omega)] | rw [if_neg (by omega)])) <;> first | rfl | (congr 1; omega))) (fun g5 h6 => by ((repeat (first | rw [if_pos (by omega)] | rw [if_neg (by omega)])) <;> first | rfl | (congr 1; omega))) (fun h7 => by (rcases h7 with rfl | rfl | rfl | rfl | rfl | rfl | rfl | rfl | rfl <;> (simp))))), trivial⟩, zRet ht hP hD [0, 1, 2, 3, 4, 5, 6, 7] (by decide) rfl⟩, hS.F ht⟩) hS.2.2 dX8_all_254
  · exact absurd c_19 (by decide)
set_option maxHeartbeats 4000000 in
set_option maxRecDepth 100000 in
theorem c_M_all_b (l : Launch) (D : va_G) (cI cJ cZ cP cS : ClassId) (po : zPool) (m0 mrf mki mpa mta mla msl mco mhe mso msi msh mce mca mwo mnu mte mwa mke mma mth mtr : Nat) (npu nte nat_ nde nto nse nhu nga nsd nfa nba npl nen nnu nwr nra nik : Int32) (gki gpa gta gla gsl gco : Nat → Int32) (to_ : Nat) (ft : Nat → Int32) (hy0 : 0 ≤ npu.toInt) (hy1 : npu.toInt ≤ 8) (hy2 : 4 ≤ nte.toInt) (hy3 : nte.toInt ≤ 40) (hy4 : 0 ≤ nat_.toInt) (hy5 : nat_.toInt ≤ 40) (hy6 : 0 ≤ nde.toInt) (hy7 : nde.toInt ≤ 24) (hy8 : 0 ≤ nhu.toInt) (hy9 : nhu.toInt ≤ 9) (hy10 : 0 ≤ nra.toInt) (hy11 : nra.toInt ≤ 2000) (hy12 : 0 ≤ nik.toInt) (hy13 : nik.toInt ≤ 1) (hkp : zKp ft) (hp_gki : zRg gki (0) 6) (hp_gpa : zRg gpa (0) 9) (hp_gta : zRg gta (0) 60) (hp_gla : zRg gla (0) 1) (hp_gsl : zRg gsl (0) 9) (hp_gco : zRg gco (0) 99) (hpz : Nat) : Met l yX8_all wsX8_all ({ frames := 1, cells := 0, slots := 0, locals := 26 }) (va_Pc [.ref m0, .ref to_, .int 1] (zW D (zKT cI cJ cZ cP cS) po [(zMO m0 npu nte nat_ nde nto nse nhu nga nsd nfa mrf mki mpa mta mla msl mco mhe mso msi msh mce mca mwo mnu mte nba npl nen nnu nwr mwa mke mma mth mtr nra nik), (mki, .inl (cI, 8, .inl gki)), (mpa, .inl (cI, 8, .inl gpa)), (mta, .inl (cI, 8, .inl gta)), (mla, .inl (cI, 40, .inl gla)), (msl, .inl (cI, 40, .inl gsl)), (mco, .inl (cI, 3, .inl gco)), (to_, .inl (cI, 130, .inl ft))] hpz)) (va_Qv (fun (u : (Int32) × (Int32) × (Int32) × (Int32) × (Int32) × (Int32) × (Int32) × (Int32) × (Int32) × (Nat → Int32) × (Nat → Int32) × (Nat → Int32) × (Nat → Int32) × (Nat → Int32) × (Nat → Int32)) => (0 ≤ u.1.toInt ∧ u.1.toInt ≤ 8) ∧ (4 ≤ u.2.1.toInt ∧ u.2.1.toInt ≤ 40) ∧ (0 ≤ u.2.2.1.toInt ∧ u.2.2.1.toInt ≤ 40) ∧ (0 ≤ u.2.2.2.1.toInt ∧ u.2.2.2.1.toInt ≤ 24) ∧ (0 ≤ u.2.2.2.2.2.2.1.toInt ∧ u.2.2.2.2.2.2.1.toInt ≤ 9) ∧ zRg u.2.2.2.2.2.2.2.2.2.1 (0) 6 ∧ zRg u.2.2.2.2.2.2.2.2.2.2.1 (0) 9 ∧ zRg u.2.2.2.2.2.2.2.2.2.2.2.1 (0) 60 ∧ zRg u.2.2.2.2.2.2.2.2.2.2.2.2.1 (0) 1 ∧ zRg u.2.2.2.2.2.2.2.2.2.2.2.2.2.1 (0) 9 ∧ zRg u.2.2.2.2.2.2.2.2.2.2.2.2.2.2 (0) 99 ∧ ((∀ j : Nat, j < 8 → u.2.2.2.2.2.2.2.2.2.1 j = ft (0 + j))) ∧ ((∀ j : Nat, j < 8 → u.2.2.2.2.2.2.2.2.2.2.1 j = ft (8 + j))) ∧ ((∀ j : Nat, j < 8 → u.2.2.2.2.2.2.2.2.2.2.2.1 j = ft (16 + j))) ∧ ((∀ j : Nat, j < 40 → u.2.2.2.2.2.2.2.2.2.2.2.2.1 j = ft (24 + j))) ∧ ((∀ j : Nat, j < 40 → u.2.2.2.2.2.2.2.2.2.2.2.2.2.1 j = ft (64 + j))) ∧ ((∀ j : Nat, j < 3 → u.2.2.2.2.2.2.2.2.2.2.2.2.2.2 j = ft (104 + j))) ∧ ((u.1 = ft 107 ∧ u.2.1 = ft 108 ∧ u.2.2.1 = ft 109 ∧ u.2.2.2.1 = ft 110 ∧ u.2.2.2.2.1 = ft 111 ∧ u.2.2.2.2.2.1 = ft 112 ∧ u.2.2.2.2.2.2.1 = ft 113 ∧ u.2.2.2.2.2.2.2.1 = ft 114 ∧ u.2.2.2.2.2.2.2.2.1 = ft 115)) ∧ (True)) (zB D [(zMO m0 npu nte nat_ nde nto nse nhu nga nsd nfa mrf mki mpa mta mla msl mco mhe mso msi msh mce mca mwo mnu mte nba npl nen nnu nwr mwa mke mma mth mtr nra nik), (mki, .inl (cI, 8, .inl gki)), (mpa, .inl (cI, 8, .inl gpa)), (mta, .inl (cI, 8, .inl gta)), (mla, .inl (cI, 40, .inl gla)), (msl, .inl (cI, 40, .inl gsl)), (mco, .inl (cI, 3, .inl gco)), (to_, .inl (cI, 130, .inl ft))] hpz (fun (u : (Int32) × (Int32) × (Int32) × (Int32) × (Int32) × (Int32) × (Int32) × (Int32) × (Int32) × (Nat → Int32) × (Nat → Int32) × (Nat → Int32) × (Nat → Int32) × (Nat → Int32) × (Nat → Int32)) => [(zMO m0 u.1 u.2.1 u.2.2.1 u.2.2.2.1 u.2.2.2.2.1 u.2.2.2.2.2.1 u.2.2.2.2.2.2.1 u.2.2.2.2.2.2.2.1 u.2.2.2.2.2.2.2.2.1 nfa mrf mki mpa mta mla msl mco mhe mso msi msh mce mca mwo mnu mte nba npl nen nnu nwr mwa mke mma mth mtr nra nik), (mki, .inl (cI, 8, .inl u.2.2.2.2.2.2.2.2.2.1)), (mpa, .inl (cI, 8, .inl u.2.2.2.2.2.2.2.2.2.2.1)), (mta, .inl (cI, 8, .inl u.2.2.2.2.2.2.2.2.2.2.2.1)), (mla, .inl (cI, 40, .inl u.2.2.2.2.2.2.2.2.2.2.2.2.1)), (msl, .inl (cI, 40, .inl u.2.2.2.2.2.2.2.2.2.2.2.2.2.1)), (mco, .inl (cI, 3, .inl u.2.2.2.2.2.2.2.2.2.2.2.2.2.2)), (to_, .inl (cI, 130, .inl ft))])) (va_A [(zMO m0 npu nte nat_ nde nto nse nhu nga nsd nfa mrf mki mpa mta mla msl mco mhe mso msi msh mce mca mwo mnu mte nba npl nen nnu nwr mwa mke mma mth mtr nra nik), (mki, .inl (cI, 8, .inl gki)), (mpa, .inl (cI, 8, .inl gpa)), (mta, .inl (cI, 8, .inl gta)), (mla, .inl (cI, 40, .inl gla)), (msl, .inl (cI, 40, .inl gsl)), (mco, .inl (cI, 3, .inl gco)), (to_, .inl (cI, 130, .inl ft))] hpz)) 0 0 (va_A [(zMO m0 npu nte nat_ nde nto nse nhu nga nsd nfa mrf mki mpa mta mla msl mco mhe mso msi msh mce mca mwo mnu mte nba npl nen nnu nwr mwa mke mma mth mtr nra nik), (mki, .inl (cI, 8, .inl gki)), (mpa, .inl (cI, 8, .inl gpa)), (mta, .inl (cI, 8, .inl gta)), (mla, .inl (cI, 40, .inl gla)), (msl, .inl (cI, 40, .inl gsl)), (mco, .inl (cI, 3, .inl gco)), (to_, .inl (cI, 130, .inl ft))] hpz) := by
  refine Met.ofW (cc := cX8_all) (maxL := 4) (ret := none) (by decide) rfl ?_
  intro p e s m args below meth c s₁ B hml hv
  obtain ⟨rfl, hsz, hP, hK, hD0, hN, hZ⟩ := hv
  have hx := B.exec
  have hb := B.bytes
  have hr := B.returns
  have hts := atoms_spec (ws := wsX8_all) B.pre
  have hown : s.vm.findClass RX8 = some m.cls := findClass_of_methodNamed B.named
  have hlocks := B.notSynchronized
  subst hsz
  have hD := hD0.self (sz := s.heap.size)
  have hA := zA_of hD
  have hl := lv_entry ([.ref m0, .ref to_, .int 1]) (n := 4) (Nat.le_of_ble_eq_true rfl)
  rw [lg_entry_eq]
  generalize (lg_sl ([.ref m0, .ref to_, .int 1]) ++ List.replicate (4 - (lg_sl ([.ref m0, .ref to_, .int 1])).length) Slot.unset).toArray = ls at hl ⊢
  replace hl : lv_has ls 4 [(0, .ref m0), (1, .ref to_), (2, .int 1)] := hl
  refine zw_begin hP hD (fun H locs hP1 hS => ?_)
  clear hP
  have hP := hP1
  clear hP1
  refine lv_aload_n hx hb dX8_all_0 rfl (lv_at hl 0 rfl) ?_
  refine lv_aload_n hx hb dX8_all_1 rfl (lv_at hl 0 rfl) ?_
  refine va_get (D := D) (ci := 8) (v := .ref mki) (C := RX8) (T := TX8) (N := 38) hx hb hts hi_X8_all_8 hown hK hP 0 rfl rfl 11 (by decide) (hts (.fieldLink RX8 29 "TheLiningsInItModel" "kind" "[I") (List.mem_of_getElem? (i := 1) rfl)) (fun _ h9 => h9) rfl dX8_all_2 ?_
  refine lv_bipush (v := 8) hx hb dX8_all_5 (by decide) ?_
  refine lv_aload_n hx hb dX8_all_7 rfl (lv_at hl 1 rfl) ?_
  refine lv_iconst (v := 0) hx hb dX8_all_8 (by decide) ?_
  refine lv_iload_n hx hb dX8_all_9 rfl (lv_at hl 2 rfl) ?_
  skip
  refine zw_V (As := [.ref mki, .int 8, .ref to_, .int 0, .int 1]) (rest := []) (wr := [(zMO m0 npu nte nat_ nde nto nse nhu nga nsd nfa mrf mki mpa mta mla msl mco mhe mso msi msh mce mca mwo mnu mte nba npl nen nnu nwr mwa mke mma mth mtr nra nik), (mpa, .inl (cI, 8, .inl gpa)), (mta, .inl (cI, 8, .inl gta)), (mla, .inl (cI, 40, .inl gla)), (msl, .inl (cI, 40, .inl gsl)), (mco, .inl (cI, 3, .inl gco))]) ⟨hx, hb, hml, hown, hts⟩ (c_M_carb_8_0 l D cI cJ cZ cP cS po m0 mki to_ gki ft (fun j hj => by (have z := hkp (0 + j) (by omega); unfold zKl zKh at z; (repeat (first | rw [if_pos (show _ from by omega)] at z | rw [if_neg (show ¬ _ from by omega)] at z)); exact z)) hp_gki H.size) (cwV 5 hts gX8_all_X8_carries rfl rfl rfl ⟨rfl, dh_X8_carries⟩ ⟨Nat.le_of_ble_eq_true rfl, Nat.le_of_ble_eq_true rfl⟩) hK hN (hZ.kept hS) hP hD hS hA [1, 7] [0, 2, 3, 4, 5, 6] rfl rfl (by decide) (by decide) (by decide) (va_recv (q := (RX8, TX8, 38)) hK hP (ci := 8) (q0 := 0) rfl rfl) rfl hl.1 rfl (Nat.le_of_ble_eq_true rfl) dX8_all_10 ⟨Nat.le_of_ble_eq_true rfl, Nat.le_of_ble_eq_true rfl⟩ (fun r_1 u_2 H locs hr_1 hP hD hS => ?_)
  obtain ⟨q_3, rfl⟩ : ∃ z, z = u_2 := ⟨_, rfl⟩
  obtain ⟨hpq_3, hsr_1_0, hr_1⟩ := hr_1
  have h9R := zRe (ws' := [(zMO m0 npu nte nat_ nde nto nse nhu nga nsd nfa mrf mki mpa mta mla msl mco mhe mso msi msh mce mca mwo mnu mte nba npl nen nnu nwr mwa mke mma mth mtr nra nik), (mpa, .inl (cI, 8, .inl gpa)), (mta, .inl (cI, 8, .inl gta)), (mla, .inl (cI, 40, .inl gla)), (msl, .inl (cI, 40, .inl gsl)), (mco, .inl (cI, 3, .inl gco)), (mki, .inl (cI, 8, .inl q_3)), (to_, .inl (cI, 130, .inl ft))]) hP hD rfl
  clear hP hD
  obtain ⟨hP, hD⟩ := h9R
  obtain rfl := hr_1
  refine lv_istore_n (lv' := [(3, .int 8), (0, .ref m0), (1, .ref to_), (2, .int 1)]) hx hb dX8_all_13 rfl hl (by decide) rfl (fun ls hl => ?_)
  refine lv_aload_n hx hb dX8_all_14 rfl (lv_at hl 1 rfl) ?_
  refine lv_aload_n hx hb dX8_all_15 rfl (lv_at hl 1 rfl) ?_
  refine va_get (D := D) (ci := 8) (v := .ref mpa) (C := RX8) (T := TX8) (N := 38) hx hb hts hi_X8_all_8 hown hK hP 0 rfl rfl 12 (by decide) (hts (.fieldLink RX8 32 "TheLiningsInItModel" "part" "[I") (List.mem_of_getElem? (i := 2) rfl)) (fun _ h9 => h9) rfl dX8_all_16 ?_
  refine lv_bipush (v := 8) hx hb dX8_all_19 (by decide) ?_
  refine lv_aload_n hx hb dX8_all_21 rfl (lv_at hl 2 rfl) ?_
  refine lv_iload_n hx hb dX8_all_22 rfl (lv_at hl 0 rfl) ?_
  refine lv_iload_n hx hb dX8_all_23 rfl (lv_at hl 3 rfl) ?_
  skip
  refine zw_V (As := [.ref mpa, .int 8, .ref to_, .int 8, .int 1]) (rest := []) (wr := [(zMO m0 npu nte nat_ nde nto nse nhu nga nsd nfa mrf mki mpa mta mla msl mco mhe mso msi msh mce mca mwo mnu mte nba npl nen nnu nwr mwa mke mma mth mtr nra nik), (mta, .inl (cI, 8, .inl gta)), (mla, .inl (cI, 40, .inl gla)), (msl, .inl (cI, 40, .inl gsl)), (mco, .inl (cI, 3, .inl gco)), (mki, .inl (cI, 8, .inl q_3))]) ⟨hx, hb, hml, hown, hts⟩ (c_M_carb_8_8 l D cI cJ cZ cP cS po m0 mpa to_ gpa ft (fun j hj => by (have z := hkp (8 + j) (by omega); unfold zKl zKh at z; (repeat (first | rw [if_pos (show _ from by omega)] at z | rw [if_neg (show ¬ _ from by omega)] at z)); exact z)) hp_gpa H.size) (cwV 5 hts gX8_all_X8_carries rfl rfl rfl ⟨rfl, dh_X8_carries⟩ ⟨Nat.le_of_ble_eq_true rfl, Nat.le_of_ble_eq_true rfl⟩) hK hN (hZ.kept hS) hP hD hS hA [1, 7] [0, 2, 3, 4, 5, 6] rfl rfl (by decide) (by decide) (by decide) (va_recv (q := (RX8, TX8, 38)) hK hP (ci := 8) (q0 := 0) rfl rfl) rfl hl.1 rfl (Nat.le_of_ble_eq_true rfl) dX8_all_24 ⟨Nat.le_of_ble_eq_true rfl, Nat.le_of_ble_eq_true rfl⟩ (fun r_4 u_5 H locs hr_4 hP hD hS => ?_)
  obtain ⟨q_6, rfl⟩ : ∃ z, z = u_5 := ⟨_, rfl⟩
  obtain ⟨hpq_6, hsr_4_0, hr_4⟩ := hr_4
  have h9R := zRe (ws' := [(zMO m0 npu nte nat_ nde nto nse nhu nga nsd nfa mrf mki mpa mta mla msl mco mhe mso msi msh mce mca mwo mnu mte nba npl nen nnu nwr mwa mke mma mth mtr nra nik), (mta, .inl (cI, 8, .inl gta)), (mla, .inl (cI, 40, .inl gla)), (msl, .inl (cI, 40, .inl gsl)), (mco, .inl (cI, 3, .inl gco)), (mki, .inl (cI, 8, .inl q_3)), (mpa, .inl (cI, 8, .inl q_6)), (to_, .inl (cI, 130, .inl ft))]) hP hD rfl
  clear hP hD
  obtain ⟨hP, hD⟩ := h9R
  obtain rfl := hr_4
  refine lv_istore_n (lv' := [(3, .int 16), (0, .ref m0), (1, .ref to_), (2, .int 1)]) hx hb dX8_all_27 rfl hl (by decide) rfl (fun ls hl => ?_)
  refine lv_aload_n hx hb dX8_all_28 rfl (lv_at hl 1 rfl) ?_
  refine lv_aload_n hx hb dX8_all_29 rfl (lv_at hl 1 rfl) ?_
  refine va_get (D := D) (ci := 8) (v := .ref mta) (C := RX8) (T := TX8) (N := 38) hx hb hts hi_X8_all_8 hown hK hP 0 rfl rfl 13 (by decide) (hts (.fieldLink RX8 35 "TheLiningsInItModel" "takes" "[I") (List.mem_of_getElem? (i := 3) rfl)) (fun _ h9 => h9) rfl dX8_all_30 ?_
  refine lv_bipush (v := 8) hx hb dX8_all_33 (by decide) ?_
  refine lv_aload_n hx hb dX8_all_35 rfl (lv_at hl 2 rfl) ?_
  refine lv_iload_n hx hb dX8_all_36 rfl (lv_at hl 0 rfl) ?_
  refine lv_iload_n hx hb dX8_all_37 rfl (lv_at hl 3 rfl) ?_
  skip
  refine zw_V (As := [.ref mta, .int 8, .ref to_, .int 16, .int 1]) (rest := []) (wr := [(zMO m0 npu nte nat_ nde nto nse nhu nga nsd nfa mrf mki mpa mta mla msl mco mhe mso msi msh mce mca mwo mnu mte nba npl nen nnu nwr mwa mke mma mth mtr nra nik), (mla, .inl (cI, 40, .inl gla)), (msl, .inl (cI, 40, .inl gsl)), (mco, .inl (cI, 3, .inl gco)), (mki, .inl (cI, 8, .inl q_3)), (mpa, .inl (cI, 8, .inl q_6))]) ⟨hx, hb, hml, hown, hts⟩ (c_M_carb_8_16 l D cI cJ cZ cP cS po m0 mta to_ gta ft (fun j hj => by (have z := hkp (16 + j) (by omega); unfold zKl zKh at z; (repeat (first | rw [if_pos (show _ from by omega)] at z | rw [if_neg (show ¬ _ from by omega)] at z)); exact z)) hp_gta H.size) (cwV 5 hts gX8_all_X8_carries rfl rfl rfl ⟨rfl, dh_X8_carries⟩ ⟨Nat.le_of_ble_eq_true rfl, Nat.le_of_ble_eq_true rfl⟩) hK hN (hZ.kept hS) hP hD hS hA [1, 7] [0, 2, 3, 4, 5, 6] rfl rfl (by decide) (by decide) (by decide) (va_recv (q := (RX8, TX8, 38)) hK hP (ci := 8) (q0 := 0) rfl rfl) rfl hl.1 rfl (Nat.le_of_ble_eq_true rfl) dX8_all_38 ⟨Nat.le_of_ble_eq_true rfl, Nat.le_of_ble_eq_true rfl⟩ (fun r_7 u_8 H locs hr_7 hP hD hS => ?_)
  obtain ⟨q_9, rfl⟩ : ∃ z, z = u_8 := ⟨_, rfl⟩
  obtain ⟨hpq_9, hsr_7_0, hr_7⟩ := hr_7
  have h9R := zRe (ws' := [(zMO m0 npu nte nat_ nde nto nse nhu nga nsd nfa mrf mki mpa mta mla msl mco mhe mso msi msh mce mca mwo mnu mte nba npl nen nnu nwr mwa mke mma mth mtr nra nik), (mla, .inl (cI, 40, .inl gla)), (msl, .inl (cI, 40, .inl gsl)), (mco, .inl (cI, 3, .inl gco)), (mki, .inl (cI, 8, .inl q_3)), (mpa, .inl (cI, 8, .inl q_6)), (mta, .inl (cI, 8, .inl q_9)), (to_, .inl (cI, 130, .inl ft))]) hP hD rfl
  clear hP hD
  obtain ⟨hP, hD⟩ := h9R
  obtain rfl := hr_7
  refine lv_istore_n (lv' := [(3, .int 24), (0, .ref m0), (1, .ref to_), (2, .int 1)]) hx hb dX8_all_41 rfl hl (by decide) rfl (fun ls hl => ?_)
  refine lv_aload_n hx hb dX8_all_42 rfl (lv_at hl 1 rfl) ?_
  refine lv_aload_n hx hb dX8_all_43 rfl (lv_at hl 1 rfl) ?_
  refine va_get (D := D) (ci := 8) (v := .ref mla) (C := RX8) (T := TX8) (N := 38) hx hb hts hi_X8_all_8 hown hK hP 0 rfl rfl 14 (by decide) (hts (.fieldLink RX8 38 "TheLiningsInItModel" "lacks" "[I") (List.mem_of_getElem? (i := 4) rfl)) (fun _ h9 => h9) rfl dX8_all_44 ?_
  refine lv_bipush (v := 40) hx hb dX8_all_47 (by decide) ?_
  refine lv_aload_n hx hb dX8_all_49 rfl (lv_at hl 2 rfl) ?_
  refine lv_iload_n hx hb dX8_all_50 rfl (lv_at hl 0 rfl) ?_
  refine lv_iload_n hx hb dX8_all_51 rfl (lv_at hl 3 rfl) ?_
  skip
  refine zw_V (As := [.ref mla, .int 40, .ref to_, .int 24, .int 1]) (rest := []) (wr := [(zMO m0 npu nte nat_ nde nto nse nhu nga nsd nfa mrf mki mpa mta mla msl mco mhe mso msi msh mce mca mwo mnu mte nba npl nen nnu nwr mwa mke mma mth mtr nra nik), (msl, .inl (cI, 40, .inl gsl)), (mco, .inl (cI, 3, .inl gco)), (mki, .inl (cI, 8, .inl q_3)), (mpa, .inl (cI, 8, .inl q_6)), (mta, .inl (cI, 8, .inl q_9))]) ⟨hx, hb, hml, hown, hts⟩ (c_M_carb_40_24 l D cI cJ cZ cP cS po m0 mla to_ gla ft (fun j hj => by (have z := hkp (24 + j) (by omega); unfold zKl zKh at z; (repeat (first | rw [if_pos (show _ from by omega)] at z | rw [if_neg (show ¬ _ from by omega)] at z)); exact z)) hp_gla H.size) (cwV 5 hts gX8_all_X8_carries rfl rfl rfl ⟨rfl, dh_X8_carries⟩ ⟨Nat.le_of_ble_eq_true rfl, Nat.le_of_ble_eq_true rfl⟩) hK hN (hZ.kept hS) hP hD hS hA [1, 7] [0, 2, 3, 4, 5, 6] rfl rfl (by decide) (by decide) (by decide) (va_recv (q := (RX8, TX8, 38)) hK hP (ci := 8) (q0 := 0) rfl rfl) rfl hl.1 rfl (Nat.le_of_ble_eq_true rfl) dX8_all_52 ⟨Nat.le_of_ble_eq_true rfl, Nat.le_of_ble_eq_true rfl⟩ (fun r_10 u_11 H locs hr_10 hP hD hS => ?_)
  obtain ⟨q_12, rfl⟩ : ∃ z, z = u_11 := ⟨_, rfl⟩
  obtain ⟨hpq_12, hsr_10_0, hr_10⟩ := hr_10
  have h9R := zRe (ws' := [(zMO m0 npu nte nat_ nde nto nse nhu nga nsd nfa mrf mki mpa mta mla msl mco mhe mso msi msh mce mca mwo mnu mte nba npl nen nnu nwr mwa mke mma mth mtr nra nik), (msl, .inl (cI, 40, .inl gsl)), (mco, .inl (cI, 3, .inl gco)), (mki, .inl (cI, 8, .inl q_3)), (mpa, .inl (cI, 8, .inl q_6)), (mta, .inl (cI, 8, .inl q_9)), (mla, .inl (cI, 40, .inl q_12)), (to_, .inl (cI, 130, .inl ft))]) hP hD rfl
  clear hP hD
  obtain ⟨hP, hD⟩ := h9R
  obtain rfl := hr_10
  refine lv_istore_n (lv' := [(3, .int 64), (0, .ref m0), (1, .ref to_), (2, .int 1)]) hx hb dX8_all_55 rfl hl (by decide) rfl (fun ls hl => ?_)
  refine lv_aload_n hx hb dX8_all_56 rfl (lv_at hl 1 rfl) ?_
  refine lv_aload_n hx hb dX8_all_57 rfl (lv_at hl 1 rfl) ?_
  refine va_get (D := D) (ci := 8) (v := .ref msl) (C := RX8) (T := TX8) (N := 38) hx hb hts hi_X8_all_8 hown hK hP 0 rfl rfl 15 (by decide) (hts (.fieldLink RX8 41 "TheLiningsInItModel" "slack" "[I") (List.mem_of_getElem? (i := 5) rfl)) (fun _ h9 => h9) rfl dX8_all_58 ?_
  refine lv_bipush (v := 40) hx hb dX8_all_61 (by decide) ?_
  refine lv_aload_n hx hb dX8_all_63 rfl (lv_at hl 2 rfl) ?_
  refine lv_iload_n hx hb dX8_all_64 rfl (lv_at hl 0 rfl) ?_
  refine lv_iload_n hx hb dX8_all_65 rfl (lv_at hl 3 rfl) ?_
  skip
  refine zw_V (As := [.ref msl, .int 40, .ref to_, .int 64, .int 1]) (rest := []) (wr := [(zMO m0 npu nte nat_ nde nto nse nhu nga nsd nfa mrf mki mpa mta mla msl mco mhe mso msi msh mce mca mwo mnu mte nba npl nen nnu nwr mwa mke mma mth mtr nra nik), (mco, .inl (cI, 3, .inl gco)), (mki, .inl (cI, 8, .inl q_3)), (mpa, .inl (cI, 8, .inl q_6)), (mta, .inl (cI, 8, .inl q_9)), (mla, .inl (cI, 40, .inl q_12))]) ⟨hx, hb, hml, hown, hts⟩ (c_M_carb_40_64 l D cI cJ cZ cP cS po m0 msl to_ gsl ft (fun j hj => by (have z := hkp (64 + j) (by omega); unfold zKl zKh at z; (repeat (first | rw [if_pos (show _ from by omega)] at z | rw [if_neg (show ¬ _ from by omega)] at z)); exact z)) hp_gsl H.size) (cwV 5 hts gX8_all_X8_carries rfl rfl rfl ⟨rfl, dh_X8_carries⟩ ⟨Nat.le_of_ble_eq_true rfl, Nat.le_of_ble_eq_true rfl⟩) hK hN (hZ.kept hS) hP hD hS hA [1, 7] [0, 2, 3, 4, 5, 6] rfl rfl (by decide) (by decide) (by decide) (va_recv (q := (RX8, TX8, 38)) hK hP (ci := 8) (q0 := 0) rfl rfl) rfl hl.1 rfl (Nat.le_of_ble_eq_true rfl) dX8_all_66 ⟨Nat.le_of_ble_eq_true rfl, Nat.le_of_ble_eq_true rfl⟩ (fun r_13 u_14 H locs hr_13 hP hD hS => ?_)
  obtain ⟨q_15, rfl⟩ : ∃ z, z = u_14 := ⟨_, rfl⟩
  obtain ⟨hpq_15, hsr_13_0, hr_13⟩ := hr_13
  have h9R := zRe (ws' := [(zMO m0 npu nte nat_ nde nto nse nhu nga nsd nfa mrf mki mpa mta mla msl mco mhe mso msi msh mce mca mwo mnu mte nba npl nen nnu nwr mwa mke mma mth mtr nra nik), (mco, .inl (cI, 3, .inl gco)), (mki, .inl (cI, 8, .inl q_3)), (mpa, .inl (cI, 8, .inl q_6)), (mta, .inl (cI, 8, .inl q_9)), (mla, .inl (cI, 40, .inl q_12)), (msl, .inl (cI, 40, .inl q_15)), (to_, .inl (cI, 130, .inl ft))]) hP hD rfl
  clear hP hD
  obtain ⟨hP, hD⟩ := h9R
  obtain rfl := hr_13
  refine lv_istore_n (lv' := [(3, .int 104), (0, .ref m0), (1, .ref to_), (2, .int 1)]) hx hb dX8_all_69 rfl hl (by decide) rfl (fun ls hl => ?_)
  refine lv_aload_n hx hb dX8_all_70 rfl (lv_at hl 1 rfl) ?_
  refine lv_aload_n hx hb dX8_all_71 rfl (lv_at hl 1 rfl) ?_
  refine va_get (D := D) (ci := 8) (v := .ref mco) (C := RX8) (T := TX8) (N := 38) hx hb hts hi_X8_all_8 hown hK hP 0 rfl rfl 16 (by decide) (hts (.fieldLink RX8 44 "TheLiningsInItModel" "cost" "[I") (List.mem_of_getElem? (i := 6) rfl)) (fun _ h9 => h9) rfl dX8_all_72 ?_
  refine lv_iconst (v := 3) hx hb dX8_all_75 (by decide) ?_
  refine lv_aload_n hx hb dX8_all_76 rfl (lv_at hl 2 rfl) ?_
  refine lv_iload_n hx hb dX8_all_77 rfl (lv_at hl 0 rfl) ?_
  refine lv_iload_n hx hb dX8_all_78 rfl (lv_at hl 3 rfl) ?_
  skip
  refine zw_V (As := [.ref mco, .int 3, .ref to_, .int 104, .int 1]) (rest := []) (wr := [(zMO m0 npu nte nat_ nde nto nse nhu nga nsd nfa mrf mki mpa mta mla msl mco mhe mso msi msh mce mca mwo mnu mte nba npl nen nnu nwr mwa mke mma mth mtr nra nik), (mki, .inl (cI, 8, .inl q_3)), (mpa, .inl (cI, 8, .inl q_6)), (mta, .inl (cI, 8, .inl q_9)), (mla, .inl (cI, 40, .inl q_12)), (msl, .inl (cI, 40, .inl q_15))]) ⟨hx, hb, hml, hown, hts⟩ (c_M_carb_3_104 l D cI cJ cZ cP cS po m0 mco to_ gco ft (fun j hj => by (have z := hkp (104 + j) (by omega); unfold zKl zKh at z; (repeat (first | rw [if_pos (show _ from by omega)] at z | rw [if_neg (show ¬ _ from by omega)] at z)); exact z)) hp_gco H.size) (cwV 5 hts gX8_all_X8_carries rfl rfl rfl ⟨rfl, dh_X8_carries⟩ ⟨Nat.le_of_ble_eq_true rfl, Nat.le_of_ble_eq_true rfl⟩) hK hN (hZ.kept hS) hP hD hS hA [1, 7] [0, 2, 3, 4, 5, 6] rfl rfl (by decide) (by decide) (by decide) (va_recv (q := (RX8, TX8, 38)) hK hP (ci := 8) (q0 := 0) rfl rfl) rfl hl.1 rfl (Nat.le_of_ble_eq_true rfl) dX8_all_79 ⟨Nat.le_of_ble_eq_true rfl, Nat.le_of_ble_eq_true rfl⟩ (fun r_16 u_17 H locs hr_16 hP hD hS => ?_)
  obtain ⟨q_18, rfl⟩ : ∃ z, z = u_17 := ⟨_, rfl⟩
  obtain ⟨hpq_18, hsr_16_0, hr_16⟩ := hr_16
  have h9R := zRe (ws' := [(zMO m0 npu nte nat_ nde nto nse nhu nga nsd nfa mrf mki mpa mta mla msl mco mhe mso msi msh mce mca mwo mnu mte nba npl nen nnu nwr mwa mke mma mth mtr nra nik), (mki, .inl (cI, 8, .inl q_3)), (mpa, .inl (cI, 8, .inl q_6)), (mta, .inl (cI, 8, .inl q_9)), (mla, .inl (cI, 40, .inl q_12)), (msl, .inl (cI, 40, .inl q_15)), (mco, .inl (cI, 3, .inl q_18)), (to_, .inl (cI, 130, .inl ft))]) hP hD rfl
  clear hP hD
  obtain ⟨hP, hD⟩ := h9R
  obtain rfl := hr_16
  refine lv_istore_n (lv' := [(3, .int 107), (0, .ref m0), (1, .ref to_), (2, .int 1)]) hx hb dX8_all_82 rfl hl (by decide) rfl (fun ls hl => ?_)
  refine lv_iload_n hx hb dX8_all_83 rfl (lv_at hl 3 rfl) ?_
  refine lv_if_eq (tgt := 172) hx hb dX8_all_84 (by decide) (fun c_19 => ?_) (fun c_19 => ?_)
  · exact absurd c_19 (by decide)
  · refine lv_aload_n hx hb dX8_all_87 rfl (lv_at hl 1 rfl) ?_
    refine lv_aload_n hx hb dX8_all_88 rfl (lv_at hl 2 rfl) ?_
    refine lv_iload_n hx hb dX8_all_89 rfl (lv_at hl 0 rfl) ?_
    refine va_iald hx hb hK hP 7 0 rfl rfl (zf_in (by decide) (by decide)) dX8_all_90 ?_
    refine lv_topi (fun x_20 ex_20 => ?_)
    have bx_20 : 0 ≤ x_20.toInt ∧ x_20.toInt ≤ 8 := by rw [ex_20, show (107 : Int32).toNatClampNeg = 107 from by decide]; exact hkp 107 (by decide)
    refine va_put (D := D) (ci := 8) (v := .int x_20) (ty := .int) (C := RX8) (T := TX8) (N := 38) hx hb hts hi_X8_all_8 tyX8 tyX8_ok nmX8 hown hK hP hD hS 0 rfl rfl 0 (by decide) (hts (.fieldLink RX8 90 "TheLiningsInItModel" "pulls" "I") (List.mem_of_getElem? (i := 7) rfl)) (fun _ h9 => h9) rfl (tyX8_ok 0 (Nat.le_of_ble_eq_true rfl)) rfl rfl (Nat.le_of_ble_eq_true rfl) dX8_all_91 (fun H locs hP hD hS => ?_)
    have h9R := zRe (ws' := [(zMO m0 x_20 nte nat_ nde nto nse nhu nga nsd nfa mrf mki mpa mta mla msl mco mhe mso msi msh mce mca mwo mnu mte nba npl nen nnu nwr mwa mke mma mth mtr nra nik), (mki, .inl (cI, 8, .inl q_3)), (mpa, .inl (cI, 8, .inl q_6)), (mta, .inl (cI, 8, .inl q_9)), (mla, .inl (cI, 40, .inl q_12)), (msl, .inl (cI, 40, .inl q_15)), (mco, .inl (cI, 3, .inl q_18)), (to_, .inl (cI, 130, .inl ft))]) hP hD rfl
    clear hP hD
    obtain ⟨hP, hD⟩ := h9R
    refine lv_aload_n hx hb dX8_all_94 rfl (lv_at hl 1 rfl) ?_
    refine lv_aload_n hx hb dX8_all_95 rfl (lv_at hl 2 rfl) ?_
    refine lv_iload_n hx hb dX8_all_96 rfl (lv_at hl 0 rfl) ?_
    refine lv_iconst (v := 1) hx hb dX8_all_97 (by decide) ?_
    refine lv_iadd hx hb dX8_all_98 ?_
    refine lv_topi (fun y_21 ey_21 => ?_)
    obtain rfl : y_21 = 108 := ey_21.trans (by decide)
    refine va_iald hx hb hK hP 7 0 rfl rfl (zf_in (by decide) (by decide)) dX8_all_99 ?_
    refine lv_topi (fun x_22 ex_22 => ?_)
    have bx_22 : 4 ≤ x_22.toInt ∧ x_22.toInt ≤ 40 := by rw [ex_22, show (108 : Int32).toNatClampNeg = 108 from by decide]; exact hkp 108 (by decide)
    refine va_put (D := D) (ci := 8) (v := .int x_22) (ty := .int) (C := RX8) (T := TX8) (N := 38) hx hb hts hi_X8_all_8 tyX8 tyX8_ok nmX8 hown hK hP hD hS 0 rfl rfl 1 (by decide) (hts (.fieldLink RX8 7 "TheLiningsInItModel" "teeth" "I") (List.mem_of_getElem? (i := 8) rfl)) (fun _ h9 => h9) rfl (tyX8_ok 1 (Nat.le_of_ble_eq_true rfl)) rfl rfl (Nat.le_of_ble_eq_true rfl) dX8_all_100 (fun H locs hP hD hS => ?_)
    have h9R := zRe (ws' := [(zMO m0 x_20 x_22 nat_ nde nto nse nhu nga nsd nfa mrf mki mpa mta mla msl mco mhe mso msi msh mce mca mwo mnu mte nba npl nen nnu nwr mwa mke mma mth mtr nra nik), (mki, .inl (cI, 8, .inl q_3)), (mpa, .inl (cI, 8, .inl q_6)), (mta, .inl (cI, 8, .inl q_9)), (mla, .inl (cI, 40, .inl q_12)), (msl, .inl (cI, 40, .inl q_15)), (mco, .inl (cI, 3, .inl q_18)), (to_, .inl (cI, 130, .inl ft))]) hP hD rfl
    clear hP hD
    obtain ⟨hP, hD⟩ := h9R
    refine lv_aload_n hx hb dX8_all_103 rfl (lv_at hl 1 rfl) ?_
    refine lv_aload_n hx hb dX8_all_104 rfl (lv_at hl 2 rfl) ?_
    refine lv_iload_n hx hb dX8_all_105 rfl (lv_at hl 0 rfl) ?_
    refine lv_iconst (v := 2) hx hb dX8_all_106 (by decide) ?_
    refine lv_iadd hx hb dX8_all_107 ?_
    refine lv_topi (fun y_23 ey_23 => ?_)
    obtain rfl : y_23 = 109 := ey_23.trans (by decide)
    refine va_iald hx hb hK hP 7 0 rfl rfl (zf_in (by decide) (by decide)) dX8_all_108 ?_
    refine lv_topi (fun x_24 ex_24 => ?_)
    have bx_24 : 0 ≤ x_24.toInt ∧ x_24.toInt ≤ 40 := by rw [ex_24, show (109 : Int32).toNatClampNeg = 109 from by decide]; exact hkp 109 (by decide)
    refine va_put (D := D) (ci := 8) (v := .int x_24) (ty := .int) (C := RX8) (T := TX8) (N := 38) hx hb hts hi_X8_all_8 tyX8 tyX8_ok nmX8 hown hK hP hD hS 0 rfl rfl 2 (by decide) (hts (.fieldLink RX8 122 "TheLiningsInItModel" "at" "I") (List.mem_of_getElem? (i := 9) rfl)) (fun _ h9 => h9) rfl (tyX8_ok 2 (Nat.le_of_ble_eq_true rfl)) rfl rfl (Nat.le_of_ble_eq_true rfl) dX8_all_109 (fun H locs hP hD hS => ?_)
    have h9R := zRe (ws' := [(zMO m0 x_20 x_22 x_24 nde nto nse nhu nga nsd nfa mrf mki mpa mta mla msl mco mhe mso msi msh mce mca mwo mnu mte nba npl nen nnu nwr mwa mke mma mth mtr nra nik), (mki, .inl (cI, 8, .inl q_3)), (mpa, .inl (cI, 8, .inl q_6)), (mta, .inl (cI, 8, .inl q_9)), (mla, .inl (cI, 40, .inl q_12)), (msl, .inl (cI, 40, .inl q_15)), (mco, .inl (cI, 3, .inl q_18)), (to_, .inl (cI, 130, .inl ft))]) hP hD rfl
    clear hP hD
    obtain ⟨hP, hD⟩ := h9R
    refine lv_aload_n hx hb dX8_all_112 rfl (lv_at hl 1 rfl) ?_
    refine lv_aload_n hx hb dX8_all_113 rfl (lv_at hl 2 rfl) ?_
    refine lv_iload_n hx hb dX8_all_114 rfl (lv_at hl 0 rfl) ?_
    refine lv_iconst (v := 3) hx hb dX8_all_115 (by decide) ?_
    refine lv_iadd hx hb dX8_all_116 ?_
    refine lv_topi (fun y_25 ey_25 => ?_)
    obtain rfl : y_25 = 110 := ey_25.trans (by decide)
    refine va_iald hx hb hK hP 7 0 rfl rfl (zf_in (by decide) (by decide)) dX8_all_117 ?_
    refine lv_topi (fun x_26 ex_26 => ?_)
    have bx_26 : 0 ≤ x_26.toInt ∧ x_26.toInt ≤ 24 := by rw [ex_26, show (110 : Int32).toNatClampNeg = 110 from by decide]; exact hkp 110 (by decide)
    refine va_put (D := D) (ci := 8) (v := .int x_26) (ty := .int) (C := RX8) (T := TX8) (N := 38) hx hb hts hi_X8_all_8 tyX8 tyX8_ok nmX8 hown hK hP hD hS 0 rfl rfl 3 (by decide) (hts (.fieldLink RX8 115 "TheLiningsInItModel" "depth" "I") (List.mem_of_getElem? (i := 10) rfl)) (fun _ h9 => h9) rfl (tyX8_ok 3 (Nat.le_of_ble_eq_true rfl)) rfl rfl (Nat.le_of_ble_eq_true rfl) dX8_all_118 (fun H locs hP hD hS => ?_)
    have h9R := zRe (ws' := [(zMO m0 x_20 x_22 x_24 x_26 nto nse nhu nga nsd nfa mrf mki mpa mta mla msl mco mhe mso msi msh mce mca mwo mnu mte nba npl nen nnu nwr mwa mke mma mth mtr nra nik), (mki, .inl (cI, 8, .inl q_3)), (mpa, .inl (cI, 8, .inl q_6)), (mta, .inl (cI, 8, .inl q_9)), (mla, .inl (cI, 40, .inl q_12)), (msl, .inl (cI, 40, .inl q_15)), (mco, .inl (cI, 3, .inl q_18)), (to_, .inl (cI, 130, .inl ft))]) hP hD rfl
    clear hP hD
    obtain ⟨hP, hD⟩ := h9R
    refine lv_aload_n hx hb dX8_all_121 rfl (lv_at hl 1 rfl) ?_
    refine lv_aload_n hx hb dX8_all_122 rfl (lv_at hl 2 rfl) ?_
    refine lv_iload_n hx hb dX8_all_123 rfl (lv_at hl 0 rfl) ?_
    refine lv_iconst (v := 4) hx hb dX8_all_124 (by decide) ?_
    refine lv_iadd hx hb dX8_all_125 ?_
    refine lv_topi (fun y_27 ey_27 => ?_)
    obtain rfl : y_27 = 111 := ey_27.trans (by decide)
    refine va_iald hx hb hK hP 7 0 rfl rfl (zf_in (by decide) (by decide)) dX8_all_126 ?_
    refine lv_topi (fun x_28 ex_28 => ?_)
    have bx_28 : -2147483648 ≤ x_28.toInt ∧ x_28.toInt ≤ 2147483647 := by rw [ex_28, show (111 : Int32).toNatClampNeg = 111 from by decide]; exact hkp 111 (by decide)
    refine va_put (D := D) (ci := 8) (v := .int x_28) (ty := .int) (C := RX8) (T := TX8) (N := 38) hx hb hts hi_X8_all_8 tyX8 tyX8_ok nmX8 hown hK hP hD hS 0 rfl rfl 4 (by decide) (hts (.fieldLink RX8 188 "TheLiningsInItModel" "torn" "I") (List.mem_of_getElem? (i := 11) rfl)) (fun _ h9 => h9) rfl (tyX8_ok 4 (Nat.le_of_ble_eq_true rfl)) rfl rfl (Nat.le_of_ble_eq_true rfl) dX8_all_127 (fun H locs hP hD hS => ?_)
    have h9R := zRe (ws' := [(zMO m0 x_20 x_22 x_24 x_26 x_28 nse nhu nga nsd nfa mrf mki mpa mta mla msl mco mhe mso msi msh mce mca mwo mnu mte nba npl nen nnu nwr mwa mke mma mth mtr nra nik), (mki, .inl (cI, 8, .inl q_3)), (mpa, .inl (cI, 8, .inl q_6)), (mta, .inl (cI, 8, .inl q_9)), (mla, .inl (cI, 40, .inl q_12)), (msl, .inl (cI, 40, .inl q_15)), (mco, .inl (cI, 3, .inl q_18)), (to_, .inl (cI, 130, .inl ft))]) hP hD rfl
    clear hP hD
    obtain ⟨hP, hD⟩ := h9R
    refine lv_aload_n hx hb dX8_all_130 rfl (lv_at hl 1 rfl) ?_
    refine lv_aload_n hx hb dX8_all_131 rfl (lv_at hl 2 rfl) ?_
    refine lv_iload_n hx hb dX8_all_132 rfl (lv_at hl 0 rfl) ?_
    refine lv_iconst (v := 5) hx hb dX8_all_133 (by decide) ?_
    refine lv_iadd hx hb dX8_all_134 ?_
    refine lv_topi (fun y_29 ey_29 => ?_)
    obtain rfl : y_29 = 112 := ey_29.trans (by decide)
    refine va_iald hx hb hK hP 7 0 rfl rfl (zf_in (by decide) (by decide)) dX8_all_135 ?_
    refine lv_topi (fun x_30 ex_30 => ?_)
    have bx_30 : -2147483648 ≤ x_30.toInt ∧ x_30.toInt ≤ 2147483647 := by rw [ex_30, show (112 : Int32).toNatClampNeg = 112 from by decide]; exact hkp 112 (by decide)
    refine va_put (D := D) (ci := 8) (v := .int x_30) (ty := .int) (C := RX8) (T := TX8) (N := 38) hx hb hts hi_X8_all_8 tyX8 tyX8_ok nmX8 hown hK hP hD hS 0 rfl rfl 5 (by decide) (hts (.fieldLink RX8 13 "TheLiningsInItModel" "seconds" "I") (List.mem_of_getElem? (i := 12) rfl)) (fun _ h9 => h9) rfl (tyX8_ok 5 (Nat.le_of_ble_eq_true rfl)) rfl rfl (Nat.le_of_ble_eq_true rfl) dX8_all_136 (fun H locs hP hD hS => ?_)
    have h9R := zRe (ws' := [(zMO m0 x_20 x_22 x_24 x_26 x_28 x_30 nhu nga nsd nfa mrf mki mpa mta mla msl mco mhe mso msi msh mce mca mwo mnu mte nba npl nen nnu nwr mwa mke mma mth mtr nra nik), (mki, .inl (cI, 8, .inl q_3)), (mpa, .inl (cI, 8, .inl q_6)), (mta, .inl (cI, 8, .inl q_9)), (mla, .inl (cI, 40, .inl q_12)), (msl, .inl (cI, 40, .inl q_15)), (mco, .inl (cI, 3, .inl q_18)), (to_, .inl (cI, 130, .inl ft))]) hP hD rfl
    clear hP hD
    obtain ⟨hP, hD⟩ := h9R
    refine lv_aload_n hx hb dX8_all_139 rfl (lv_at hl 1 rfl) ?_
    refine lv_aload_n hx hb dX8_all_140 rfl (lv_at hl 2 rfl) ?_
    refine lv_iload_n hx hb dX8_all_141 rfl (lv_at hl 0 rfl) ?_
    refine lv_bipush (v := 6) hx hb dX8_all_142 (by decide) ?_
    refine lv_iadd hx hb dX8_all_144 ?_
    refine lv_topi (fun y_31 ey_31 => ?_)
    obtain rfl : y_31 = 113 := ey_31.trans (by decide)
    refine va_iald hx hb hK hP 7 0 rfl rfl (zf_in (by decide) (by decide)) dX8_all_145 ?_
    refine lv_topi (fun x_32 ex_32 => ?_)
    have bx_32 : 0 ≤ x_32.toInt ∧ x_32.toInt ≤ 9 := by rw [ex_32, show (113 : Int32).toNatClampNeg = 113 from by decide]; exact hkp 113 (by decide)
    refine va_put (D := D) (ci := 8) (v := .int x_32) (ty := .int) (C := RX8) (T := TX8) (N := 38) hx hb hts hi_X8_all_8 tyX8 tyX8_ok nmX8 hown hK hP hD hS 0 rfl rfl 6 (by decide) (hts (.fieldLink RX8 135 "TheLiningsInItModel" "hurry" "I") (List.mem_of_getElem? (i := 13) rfl)) (fun _ h9 => h9) rfl (tyX8_ok 6 (Nat.le_of_ble_eq_true rfl)) rfl rfl (Nat.le_of_ble_eq_true rfl) dX8_all_146 (fun H locs hP hD hS => ?_)
    have h9R := zRe (ws' := [(zMO m0 x_20 x_22 x_24 x_26 x_28 x_30 x_32 nga nsd nfa mrf mki mpa mta mla msl mco mhe mso msi msh mce mca mwo mnu mte nba npl nen nnu nwr mwa mke mma mth mtr nra nik), (mki, .inl (cI, 8, .inl q_3)), (mpa, .inl (cI, 8, .inl q_6)), (mta, .inl (cI, 8, .inl q_9)), (mla, .inl (cI, 40, .inl q_12)), (msl, .inl (cI, 40, .inl q_15)), (mco, .inl (cI, 3, .inl q_18)), (to_, .inl (cI, 130, .inl ft))]) hP hD rfl
    clear hP hD
    obtain ⟨hP, hD⟩ := h9R
    refine lv_aload_n hx hb dX8_all_149 rfl (lv_at hl 1 rfl) ?_
    refine lv_aload_n hx hb dX8_all_150 rfl (lv_at hl 2 rfl) ?_
    refine lv_iload_n hx hb dX8_all_151 rfl (lv_at hl 0 rfl) ?_
    refine lv_bipush (v := 7) hx hb dX8_all_152 (by decide) ?_
    refine lv_iadd hx hb dX8_all_154 ?_
    refine lv_topi (fun y_33 ey_33 => ?_)
    obtain rfl : y_33 = 114 := ey_33.trans (by decide)
    refine va_iald hx hb hK hP 7 0 rfl rfl (zf_in (by decide) (by decide)) dX8_all_155 ?_
    refine lv_topi (fun x_34 ex_34 => ?_)
    have bx_34 : -2147483648 ≤ x_34.toInt ∧ x_34.toInt ≤ 2147483647 := by rw [ex_34, show (114 : Int32).toNatClampNeg = 114 from by decide]; exact hkp 114 (by decide)
    refine va_put (D := D) (ci := 8) (v := .int x_34) (ty := .int) (C := RX8) (T := TX8) (N := 38) hx hb hts hi_X8_all_8 tyX8 tyX8_ok nmX8 hown hK hP hD hS 0 rfl rfl 7 (by decide) (hts (.fieldLink RX8 16 "TheLiningsInItModel" "gap" "I") (List.mem_of_getElem? (i := 14) rfl)) (fun _ h9 => h9) rfl (tyX8_ok 7 (Nat.le_of_ble_eq_true rfl)) rfl rfl (Nat.le_of_ble_eq_true rfl) dX8_all_156 (fun H locs hP hD hS => ?_)
    have h9R := zRe (ws' := [(zMO m0 x_20 x_22 x_24 x_26 x_28 x_30 x_32 x_34 nsd nfa mrf mki mpa mta mla msl mco mhe mso msi msh mce mca mwo mnu mte nba npl nen nnu nwr mwa mke mma mth mtr nra nik), (mki, .inl (cI, 8, .inl q_3)), (mpa, .inl (cI, 8, .inl q_6)), (mta, .inl (cI, 8, .inl q_9)), (mla, .inl (cI, 40, .inl q_12)), (msl, .inl (cI, 40, .inl q_15)), (mco, .inl (cI, 3, .inl q_18)), (to_, .inl (cI, 130, .inl ft))]) hP hD rfl
    clear hP hD
    obtain ⟨hP, hD⟩ := h9R
    refine lv_aload_n hx hb dX8_all_159 rfl (lv_at hl 1 rfl) ?_
    refine lv_aload_n hx hb dX8_all_160 rfl (lv_at hl 2 rfl) ?_
    refine lv_iload_n hx hb dX8_all_161 rfl (lv_at hl 0 rfl) ?_
    refine lv_bipush (v := 8) hx hb dX8_all_162 (by decide) ?_
    refine lv_iadd hx hb dX8_all_164 ?_
    refine lv_topi (fun y_35 ey_35 => ?_)
    obtain rfl : y_35 = 115 := ey_35.trans (by decide)
    refine va_iald hx hb hK hP 7 0 rfl rfl (zf_in (by decide) (by decide)) dX8_all_165 ?_
    refine lv_topi (fun x_36 ex_36 => ?_)
    have bx_36 : -2147483648 ≤ x_36.toInt ∧ x_36.toInt ≤ 2147483647 := by rw [ex_36, show (115 : Int32).toNatClampNeg = 115 from by decide]; exact hkp 115 (by decide)
    refine va_put (D := D) (ci := 8) (v := .int x_36) (ty := .int) (C := RX8) (T := TX8) (N := 38) hx hb hts hi_X8_all_8 tyX8 tyX8_ok nmX8 hown hK hP hD hS 0 rfl rfl 8 (by decide) (hts (.fieldLink RX8 19 "TheLiningsInItModel" "seed" "I") (List.mem_of_getElem? (i := 15) rfl)) (fun _ h9 => h9) rfl (tyX8_ok 8 (Nat.le_of_ble_eq_true rfl)) rfl rfl (Nat.le_of_ble_eq_true rfl) dX8_all_166 (fun H locs hP hD hS => ?_)
    have h9R := zRe (ws' := [(zMO m0 x_20 x_22 x_24 x_26 x_28 x_30 x_32 x_34 x_36 nfa mrf mki mpa mta mla msl mco mhe mso msi msh mce mca mwo mnu mte nba npl nen nnu nwr mwa mke mma mth mtr nra nik), (mki, .inl (cI, 8, .inl q_3)), (mpa, .inl (cI, 8, .inl q_6)), (mta, .inl (cI, 8, .inl q_9)), (mla, .inl (cI, 40, .inl q_12)), (msl, .inl (cI, 40, .inl q_15)), (mco, .inl (cI, 3, .inl q_18)), (to_, .inl (cI, 130, .inl ft))]) hP hD rfl
    clear hP hD
    obtain ⟨hP, hD⟩ := h9R
    refine lv_goto (tgt := 254) hx hb dX8_all_169 (by decide) ?_
    exact W.vret hx hb hr (fun t ht hW => ⟨⟨(x_20, x_22, x_24, x_26, x_28, x_30, x_32, x_34, x_36, q_3, q_6, q_9, q_12, q_15, q_18), rfl, ⟨(show 0 ≤ x_20.toInt ∧ x_20.toInt ≤ 8 from ⟨by omega, by omega⟩), (show 4 ≤ x_22.toInt ∧ x_22.toInt ≤ 40 from ⟨by omega, by omega⟩), (show 0 ≤ x_24.toInt ∧ x_24.toInt ≤ 40 from ⟨by omega, by omega⟩), (show 0 ≤ x_26.toInt ∧ x_26.toInt ≤ 24 from ⟨by omega, by omega⟩), (show 0 ≤ x_32.toInt ∧ x_32.toInt ≤ 9 from ⟨by omega, by omega⟩), hpq_3, hpq_6, hpq_9, hpq_12, hpq_15, hpq_18, (show (∀ j : Nat, j < 8 → q_3 j = ft (0 + j)) from by (intro j hj; rw [hsr_1_0]; unfold zCab; rw [if_pos hj])), (show (∀ j : Nat, j < 8 → q_6 j = ft (8 + j)) from by (intro j hj; rw [hsr_4_0]; unfold zCab; rw [if_pos hj])), (show (∀ j : Nat, j < 8 → q_9 j = ft (16 + j)) from by (intro j hj; rw [hsr_7_0]; unfold zCab; rw [if_pos hj])), (show (∀ j : Nat, j < 40 → q_12 j = ft (24 + j)) from by (intro j hj; rw [hsr_10_0]; unfold zCab; rw [if_pos hj])), (show (∀ j : Nat, j < 40 → q_15 j = ft (64 + j)) from by (intro j hj; rw [hsr_13_0]; unfold zCab; rw [if_pos hj])), (show (∀ j : Nat, j < 3 → q_18 j = ft (104 + j)) from by (intro j hj; rw [hsr_16_0]; unfold zCab; rw [if_pos hj])), (show (x_20 = ft 107 ∧ x_22 = ft 108 ∧ x_24 = ft 109 ∧ x_26 = ft 110 ∧ x_28 = ft 111 ∧ x_30 = ft 112 ∧ x_32 = ft 113 ∧ x_34 = ft 114 ∧ x_36 = ft 115) from by refine ⟨?_, ?_, ?_, ?_, ?_, ?_, ?_, ?_, ?_⟩ <;> assumption), trivial⟩, zRet ht hP hD [0, 1, 2, 3, 4, 5, 6, 7] (by decide) rfl⟩, hS.F ht⟩) hS.2.2 dX8_all_254
end
section
theorem hi_X8_jacket_8 : ∀ w ∈ u_ws RX8 TX8 38, w ∈ wsX8_jacket := fun w h => (gl_X8_jacket_X80 w h).1
end
section
theorem hi_X8_image_8 : ∀ w ∈ u_ws RX8 TX8 38, w ∈ wsX8_image := fun w h => (gl_X8_image_X80 w h).1
theorem hi_X8_restore_8 : ∀ w ∈ u_ws RX8 TX8 38, w ∈ wsX8_restore := fun w h => (gl_X8_restore_X80 w h).1
end
section
/-! a text of letters: how many letters of a word stand at a place, the words, the numbers, an item, the items -/
def zLc (f : Nat → Int32) (e : Int) : Int → List Int32 → Nat
  | _, [] => 0
  | p, c :: l => if p < e ∧ f p.toNat = c then zLc f e (p + 1) l + 1 else 0
theorem zLc_c {f : Nat → Int32} {e p : Int} {c : Int32} {l : List Int32} : zLc f e p (c :: l) = (if p < e ∧ f p.toNat = c then zLc f e (p + 1) l + 1 else 0) := rfl
theorem zLc_le {f : Nat → Int32} {e : Int} : ∀ (l : List Int32) (p : Int), zLc f e p l ≤ l.length := by
  intro l
  induction l with
  | nil => intro p; exact Nat.le_refl _
  | cons c l ih =>
    intro p
    rw [zLc_c]
    split
    · have := ih (p + 1)
      simp only [List.length_cons]
      omega
    · simp only [List.length_cons]; omega
theorem zLc_eq {f : Nat → Int32} {e : Int} : ∀ (l : List Int32) (p : Int) (n : Nat), n ≤ l.length → (∀ j : Nat, j < n → p + (j : Int) < e ∧ f (p + (j : Int)).toNat = l.getD j 0) → (n = l.length ∨ ¬ (p + (n : Int) < e ∧ f (p + (n : Int)).toNat = l.getD n 0)) → zLc f e p l = n := by
  intro l
  induction l with
  | nil =>
    intro p n hn _ _
    have h0 : n = 0 := by simpa using hn
    rw [h0]
    rfl
  | cons c l ih =>
    intro p n hn hj hx
    rw [zLc_c]
    by_cases h : p < e ∧ f p.toNat = c
    · rw [if_pos h]
      match n, hn, hj, hx with
      | 0, _, _, hx =>
        exfalso
        rcases hx with hx | hx
        · simp at hx
        · exact hx (by simpa using h)
      | n + 1, hn, hj, hx =>
        have e1 : ∀ j : Nat, p + 1 + (j : Int) = p + ((j + 1 : Nat) : Int) := fun j => by omega
        have h9 := ih (p + 1) n (by simpa using hn) (fun j h3 => by
          have h4 := hj (j + 1) (by omega)
          rw [e1 j]
          exact ⟨h4.1, by rw [h4.2]; rfl⟩) (by
          rcases hx with hx | hx
          · exact Or.inl (by simpa using hx)
          · refine Or.inr (fun h5 => hx ?_)
            rw [e1 n] at h5
            exact ⟨h5.1, by rw [h5.2]; rfl⟩)
        rw [h9]
    · rw [if_neg h]
      match n, hj with
      | 0, _ => rfl
      | n + 1, hj =>
        exfalso
        have h4 := hj 0 (by omega)
        exact h (by simpa using h4)
theorem zLc_pre {f : Nat → Int32} {e : Int} : ∀ (l : List Int32) (p : Int) (j : Nat), j < zLc f e p l → p + (j : Int) < e ∧ f (p + (j : Int)).toNat = l.getD j 0 := by
  intro l
  induction l with
  | nil => intro p j h; exact absurd h (Nat.not_lt_zero j)
  | cons c l ih =>
    intro p j h
    rw [zLc_c] at h
    by_cases h1 : p < e ∧ f p.toNat = c
    · rw [if_pos h1] at h
      match j, h with
      | 0, _ => simpa using h1
      | j + 1, h =>
        have h4 := ih (p + 1) j (by omega)
        have e1 : p + ((j + 1 : Nat) : Int) = p + 1 + (j : Int) := by omega
        rw [e1]
        exact ⟨h4.1, by rw [h4.2]; rfl⟩
    · rw [if_neg h1] at h; exact absurd h (Nat.not_lt_zero j)
theorem zLc_congr {f g : Nat → Int32} {e : Int} (h : ∀ j : Int, 0 ≤ j → j < e → f j.toNat = g j.toNat) : ∀ (l : List Int32) (p : Int), 0 ≤ p → zLc f e p l = zLc g e p l := by
  intro l
  induction l with
  | nil => intro p _; rfl
  | cons c l ih =>
    intro p hp
    rw [zLc_c, zLc_c]
    by_cases h1 : p < e
    · rw [h p hp h1, ih (p + 1) (by omega)]
    · rw [if_neg (show ¬ (p < e ∧ f p.toNat = c) from fun z => h1 z.1), if_neg (show ¬ (p < e ∧ g p.toNat = c) from fun z => h1 z.1)]
/-- the first of n words that stands whole at p; the most letters of one that stand there -/
def zFst (f : Nat → Int32) (e p : Int) (ls : Nat → List Int32) : Nat → Int
  | 0 => -1
  | n + 1 => if zFst f e p ls n = -1 then (if zLc f e p (ls n) = (ls n).length then (n : Int) else -1) else zFst f e p ls n
def zMx (f : Nat → Int32) (e p : Int) (ls : Nat → List Int32) : Nat → Nat
  | 0 => 0
  | n + 1 => if zMx f e p ls n < zLc f e p (ls n) then zLc f e p (ls n) else zMx f e p ls n
theorem zFst_s {f : Nat → Int32} {e p : Int} {ls : Nat → List Int32} {n : Nat} : zFst f e p ls (n + 1) = (if zFst f e p ls n = -1 then (if zLc f e p (ls n) = (ls n).length then (n : Int) else -1) else zFst f e p ls n) := rfl
theorem zMx_s {f : Nat → Int32} {e p : Int} {ls : Nat → List Int32} {n : Nat} : zMx f e p ls (n + 1) = (if zMx f e p ls n < zLc f e p (ls n) then zLc f e p (ls n) else zMx f e p ls n) := rfl
theorem zFst_spec {f : Nat → Int32} {e p : Int} {ls : Nat → List Int32} : ∀ n : Nat, (zFst f e p ls n = -1 ∧ ∀ k : Nat, k < n → zLc f e p (ls k) ≠ (ls k).length) ∨ ∃ k : Nat, k < n ∧ zFst f e p ls n = (k : Int) ∧ zLc f e p (ls k) = (ls k).length ∧ ∀ j : Nat, j < k → zLc f e p (ls j) ≠ (ls j).length := by
  intro n
  induction n with
  | zero => exact Or.inl ⟨rfl, fun k h => absurd h (Nat.not_lt_zero k)⟩
  | succ n ih =>
    rcases ih with ⟨h1, h2⟩ | ⟨k, h1, h2, h3, h4⟩
    · rw [zFst_s]
      rw [if_pos h1]
      by_cases h3 : zLc f e p (ls n) = (ls n).length
      · rw [if_pos h3]
        exact Or.inr ⟨n, by omega, rfl, h3, h2⟩
      · rw [if_neg h3]
        refine Or.inl ⟨rfl, fun k hk => ?_⟩
        rcases Nat.lt_or_ge k n with h5 | h5
        · exact h2 k h5
        · obtain rfl : k = n := by omega
          exact h3
    · rw [zFst_s]
      rw [if_neg (by omega)]
      exact Or.inr ⟨k, by omega, h2, h3, h4⟩
theorem zMx_spec {f : Nat → Int32} {e p : Int} {ls : Nat → List Int32} : ∀ n : Nat, (∀ k : Nat, k < n → zLc f e p (ls k) ≤ zMx f e p ls n) ∧ (zMx f e p ls n = 0 ∨ ∃ k : Nat, k < n ∧ zMx f e p ls n = zLc f e p (ls k)) := by
  intro n
  induction n with
  | zero => exact ⟨fun k h => absurd h (Nat.not_lt_zero k), Or.inl rfl⟩
  | succ n ih =>
    obtain ⟨h1, h2⟩ := ih
    rw [zMx_s]
    split
    · rename_i h3
      refine ⟨fun k hk => ?_, Or.inr ⟨n, by omega, rfl⟩⟩
      rcases Nat.lt_or_ge k n with h5 | h5
      · have := h1 k h5
        omega
      · obtain rfl : k = n := by omega
        exact Nat.le_refl _
    · rename_i h3
      refine ⟨fun k hk => ?_, ?_⟩
      · rcases Nat.lt_or_ge k n with h5 | h5
        · exact h1 k h5
        · obtain rfl : k = n := by omega
          omega
      · rcases h2 with h2 | ⟨k, h4, h5⟩
        · exact Or.inl h2
        · exact Or.inr ⟨k, by omega, h5⟩
theorem zFst_congr {f g : Nat → Int32} {e p : Int} {ls : Nat → List Int32} (h : ∀ j : Int, 0 ≤ j → j < e → f j.toNat = g j.toNat) (hp : 0 ≤ p) : ∀ n : Nat, zFst f e p ls n = zFst g e p ls n := by
  intro n
  induction n with
  | zero => rfl
  | succ n ih => rw [zFst_s, zFst_s, ih, zLc_congr h _ p hp]
theorem zMx_congr {f g : Nat → Int32} {e p : Int} {ls : Nat → List Int32} (h : ∀ j : Int, 0 ≤ j → j < e → f j.toNat = g j.toNat) (hp : 0 ≤ p) : ∀ n : Nat, zMx f e p ls n = zMx g e p ls n := by
  intro n
  induction n with
  | zero => rfl
  | succ n ih => rw [zMx_s, zMx_s, ih, zLc_congr h _ p hp]
/-- the ten words; the ten words with a blank behind them -/
def zWds (w : Nat) : List Int32 := zByt.getD w []
def zBls (w : Nat) : List Int32 := zWds w ++ [32]
theorem zWds_len : ∀ w : Nat, w < 10 → (zWds w).length = zLen.getD w 0 ∧ 2 ≤ (zWds w).length ∧ (zWds w).length ≤ 7 := by decide
theorem zWds_ne : ∀ v : Nat, v < 10 → ∀ w : Nat, w < 10 → v ≠ w → (zWds v).getD 0 0 ≠ (zWds w).getD 0 0 ∨ (zWds v).getD 1 0 ≠ (zWds w).getD 1 0 := by decide
theorem zBls_ge : ∀ w : Nat, w < 10 → ∀ j : Nat, j < 7 → j < (zWds w).length → (zBls w).getD j 0 = (zWds w).getD j 0 := by decide
theorem zBls_at : ∀ w : Nat, w < 10 → (zBls w).getD (zWds w).length 0 = 32 := by decide
theorem zBls_len (w : Nat) : (zBls w).length = (zWds w).length + 1 := by unfold zBls; simp
theorem zLc_max {f : Nat → Int32} {e : Int} : ∀ (l : List Int32) (p : Int) (n : Nat), n ≤ l.length → (∀ j : Nat, j < n → p + (j : Int) < e ∧ f (p + (j : Int)).toNat = l.getD j 0) → n ≤ zLc f e p l := by
  intro l
  induction l with
  | nil =>
    intro p n hn _
    have h0 : n = 0 := by simpa using hn
    rw [h0]
    exact Nat.zero_le _
  | cons c l ih =>
    intro p n hn hj
    match n, hn, hj with
    | 0, _, _ => exact Nat.zero_le _
    | n + 1, hn, hj =>
      have h0 := hj 0 (by omega)
      have h1 : p < e ∧ f p.toNat = c := by simpa using h0
      rw [zLc_c]
      rw [if_pos h1]
      have h2 := ih (p + 1) n (by simpa using hn) (fun j h3 => by
        have h4 := hj (j + 1) (by omega)
        have e1 : p + ((j + 1 : Nat) : Int) = p + 1 + (j : Int) := by omega
        rw [e1] at h4
        exact ⟨h4.1, by rw [h4.2]; rfl⟩)
      omega
theorem zLc_end {f : Nat → Int32} {e : Int} {l : List Int32} {p : Int} (h : zLc f e p l < l.length) : ¬ (p + (zLc f e p l : Int) < e ∧ f (p + (zLc f e p l : Int)).toNat = l.getD (zLc f e p l) 0) := fun h1 => by
  have h2 := zLc_max l p (zLc f e p l + 1) (by omega) (fun j hj => by
    rcases Nat.lt_or_ge j (zLc f e p l) with h3 | h3
    · exact zLc_pre l p j h3
    · obtain rfl : j = zLc f e p l := by omega
      exact h1)
  omega
/-- with the blank: as many letters, or one more, if all the word's stand and a blank behind them -/
theorem zLc_bls {f : Nat → Int32} {e p : Int} {w : Nat} (hw : w < 10) : (zLc f e p (zWds w) < (zWds w).length ∧ zLc f e p (zBls w) = zLc f e p (zWds w)) ∨ (zLc f e p (zWds w) = (zWds w).length ∧ zLc f e p (zBls w) = (zWds w).length + (if p + ((zWds w).length : Int) < e ∧ f (p + ((zWds w).length : Int)).toNat = 32 then 1 else 0)) := by
  have hl := zWds_len w hw
  have h1 := zLc_le (f := f) (e := e) (zWds w) p
  have h3 := zBls_len w
  have hp := zLc_pre (f := f) (e := e) (zWds w) p
  rcases Nat.lt_or_ge (zLc f e p (zWds w)) (zWds w).length with h2 | h2
  · refine Or.inl ⟨h2, zLc_eq _ _ _ (by omega) (fun j hj => ?_) (Or.inr (fun h5 => ?_))⟩
    · rw [zBls_ge w hw j (by omega) (by omega)]; exact hp j hj
    · rw [zBls_ge w hw _ (by omega) h2] at h5
      exact zLc_end h2 h5
  · have h4 : zLc f e p (zWds w) = (zWds w).length := by omega
    refine Or.inr ⟨h4, ?_⟩
    by_cases h5 : p + ((zWds w).length : Int) < e ∧ f (p + ((zWds w).length : Int)).toNat = 32
    · rw [if_pos h5]
      refine zLc_eq _ _ _ (by omega) (fun j hj => ?_) (Or.inl h3.symm)
      rcases Nat.lt_or_ge j (zWds w).length with h6 | h6
      · rw [zBls_ge w hw j (by omega) h6]; exact hp j (by omega)
      · obtain rfl : j = (zWds w).length := by omega
        rw [zBls_at w hw]; exact h5
    · rw [if_neg h5]
      refine zLc_eq _ _ _ (by omega) (fun j hj => ?_) (Or.inr (fun h6 => ?_))
      · rw [zBls_ge w hw j (by omega) (by omega)]; exact hp j (by omega)
      · rw [show (zWds w).length + 0 = (zWds w).length from rfl, zBls_at w hw] at h6
        exact h5 h6
/-- where one word stands whole, at most a letter of any other one does -/
theorem zLc_one {f : Nat → Int32} {e p : Int} {v w : Nat} (hv : v < 10) (hw : w < 10) (hne : v ≠ w) (h : zLc f e p (zWds w) = (zWds w).length) : zLc f e p (zWds v) ≤ 1 := by
  rcases Nat.lt_or_ge 1 (zLc f e p (zWds v)) with h1 | h1
  · exfalso
    have hl := zWds_len w hw
    have a0 := zLc_pre (f := f) (e := e) (zWds v) p 0 (by omega)
    have a1 := zLc_pre (f := f) (e := e) (zWds v) p 1 (by omega)
    have b0 := zLc_pre (f := f) (e := e) (zWds w) p 0 (by omega)
    have b1 := zLc_pre (f := f) (e := e) (zWds w) p 1 (by omega)
    rcases zWds_ne v hv w hw hne with h2 | h2
    · exact h2 (a0.2.symm.trans b0.2)
    · exact h2 (a1.2.symm.trans b1.2)
  · exact h1
/-- the reference's words have their blank with them: what comes of it, by the words alone -/
theorem zFst_bls {f : Nat → Int32} {e p : Int} : (zFst f e p zBls 10 = -1 ∧ ((zFst f e p zWds 10 = -1 ∧ zMx f e p zBls 10 = zMx f e p zWds 10) ∨ ∃ w : Nat, w < 10 ∧ zFst f e p zWds 10 = (w : Int) ∧ ¬ (p + ((zWds w).length : Int) < e ∧ f (p + ((zWds w).length : Int)).toNat = 32) ∧ zMx f e p zBls 10 = (zWds w).length)) ∨ ∃ w : Nat, w < 10 ∧ zFst f e p zWds 10 = (w : Int) ∧ zFst f e p zBls 10 = (w : Int) ∧ p + ((zWds w).length : Int) < e ∧ f (p + ((zWds w).length : Int)).toNat = 32 := by
  have m1 := zMx_spec (f := f) (e := e) (p := p) (ls := zBls) 10
  have m2 := zMx_spec (f := f) (e := e) (p := p) (ls := zWds) 10
  rcases zFst_spec (f := f) (e := e) (p := p) (ls := zWds) 10 with ⟨h1, h2⟩ | ⟨w, hw, h1, h2, h3⟩
  · have hs : ∀ k : Nat, k < 10 → zLc f e p (zBls k) = zLc f e p (zWds k) := fun k hk => by
      rcases zLc_bls (f := f) (e := e) (p := p) hk with h4 | h4
      · exact h4.2
      · exact absurd h4.1 (h2 k hk)
    have h5 : zFst f e p zBls 10 = -1 := by
      rcases zFst_spec (f := f) (e := e) (p := p) (ls := zBls) 10 with ⟨h4, -⟩ | ⟨k, hk, -, h6, -⟩
      · exact h4
      · rw [hs k hk, zBls_len] at h6
        have := zLc_le (f := f) (e := e) (zWds k) p
        omega
    refine Or.inl ⟨h5, Or.inl ⟨h1, ?_⟩⟩
    apply Nat.le_antisymm
    · rcases m1.2 with h6 | ⟨k, hk, h6⟩
      · omega
      · rw [h6, hs k hk]; exact m2.1 k hk
    · rcases m2.2 with h6 | ⟨k, hk, h6⟩
      · omega
      · rw [h6, ← hs k hk]; exact m1.1 k hk
  · have hl := zWds_len w hw
    have ho : ∀ k : Nat, k < 10 → k ≠ w → zLc f e p (zBls k) ≤ 1 := fun k hk hkw => by
      have h5 := zLc_one hk hw hkw h2
      have h6 := zWds_len k hk
      rcases zLc_bls (f := f) (e := e) (p := p) hk with h4 | h4
      · rw [h4.2]; exact h5
      · exact absurd h4.1 (by omega)
    rcases zLc_bls (f := f) (e := e) (p := p) hw with h4 | h4
    · exact absurd h2 (by omega)
    · by_cases h5 : p + ((zWds w).length : Int) < e ∧ f (p + ((zWds w).length : Int)).toNat = 32
      · rw [if_pos h5] at h4
        refine Or.inr ⟨w, hw, h1, ?_, h5.1, h5.2⟩
        rcases zFst_spec (f := f) (e := e) (p := p) (ls := zBls) 10 with ⟨h6, h7⟩ | ⟨k, hk, h6, h7, -⟩
        · exact absurd (h4.2.trans (zBls_len w).symm) (h7 w hw)
        · by_cases h8 : k = w
          · rw [h6, h8]
          · have h9 := ho k hk h8
            have h10 := zBls_len k
            have h11 := zWds_len k hk
            omega
      · rw [if_neg h5] at h4
        refine Or.inl ⟨?_, Or.inr ⟨w, hw, h1, h5, ?_⟩⟩
        · rcases zFst_spec (f := f) (e := e) (p := p) (ls := zBls) 10 with ⟨h6, -⟩ | ⟨k, hk, h6, h7, -⟩
          · exact h6
          · exfalso
            have h10 := zBls_len k
            have h11 := zWds_len k hk
            by_cases h8 : k = w
            · subst h8; omega
            · have h9 := ho k hk h8
              omega
        · apply Nat.le_antisymm
          · rcases m1.2 with h6 | ⟨k, hk, h6⟩
            · omega
            · by_cases h8 : k = w
              · subst h8; omega
              · have h9 := ho k hk h8
                omega
          · have := m1.1 w hw
            omega
/-- a number of at most three digits: its end, its value -/
abbrev zDg (f : Nat → Int32) (e q : Int) : Prop := q < e ∧ 48 ≤ (f q.toNat).toInt ∧ (f q.toNat).toInt ≤ 57
def zNe (f : Nat → Int32) (e p : Int) : Int := if zDg f e p then (if zDg f e (p + 1) then (if zDg f e (p + 2) then p + 3 else p + 2) else p + 1) else p
def zDv (f : Nat → Int32) (q : Int) : Int := (f q.toNat).toInt - 48
def zNv (f : Nat → Int32) (p q : Int) : Int := if q = p then 0 else if q = p + 1 then zDv f p else if q = p + 2 then 10 * zDv f p + zDv f (p + 1) else 10 * (10 * zDv f p + zDv f (p + 1)) + zDv f (p + 2)
theorem zNe_eq {f : Nat → Int32} {e p q : Int} (h1 : p ≤ q) (h2 : q ≤ p + 3) (hd : ∀ j : Int, p ≤ j → j < q → zDg f e j) (hx : q = p + 3 ∨ ¬ zDg f e q) : zNe f e p = q := by
  unfold zNe
  rcases (show q = p ∨ q = p + 1 ∨ q = p + 2 ∨ q = p + 3 by omega) with h | h | h | h
  · rw [if_neg]; exact h.symm
    rcases hx with hx | hx
    · omega
    · rw [h] at hx; exact hx
  · rw [if_pos (hd p (by omega) (by omega)), if_neg]; exact h.symm
    rcases hx with hx | hx
    · omega
    · rw [h] at hx; exact hx
  · rw [if_pos (hd p (by omega) (by omega)), if_pos (hd (p + 1) (by omega) (by omega)), if_neg]; exact h.symm
    rcases hx with hx | hx
    · omega
    · rw [h] at hx; exact hx
  · rw [if_pos (hd p (by omega) (by omega)), if_pos (hd (p + 1) (by omega) (by omega)), if_pos (hd (p + 2) (by omega) (by omega))]; exact h.symm
theorem zNe_rg {f : Nat → Int32} {e p : Int} (hp : p ≤ e) : p ≤ zNe f e p ∧ zNe f e p ≤ p + 3 ∧ zNe f e p ≤ e := by
  unfold zNe
  split
  · rename_i h1
    split
    · rename_i h2
      split
      · rename_i h3
        exact ⟨by omega, by omega, by have := h3.1; omega⟩
      · exact ⟨by omega, by omega, by have := h2.1; omega⟩
    · exact ⟨by omega, by omega, by have := h1.1; omega⟩
  · exact ⟨by omega, by omega, by omega⟩
theorem zNv_0 {f : Nat → Int32} {p : Int} : zNv f p p = 0 := if_pos rfl
theorem zNv_S {f : Nat → Int32} {p q : Int} (h1 : p ≤ q) (h2 : q < p + 3) : zNv f p (q + 1) = 10 * zNv f p q + zDv f q := by
  unfold zNv
  rcases (show q = p ∨ q = p + 1 ∨ q = p + 2 by omega) with h | h | h
  · subst h
    rw [if_neg (by omega), if_pos (by omega), if_pos rfl]; omega
  · subst h
    rw [if_neg (by omega), if_neg (by omega), if_pos (by omega), if_neg (by omega), if_pos (by omega)]
  · subst h
    rw [if_neg (by omega), if_neg (by omega), if_neg (by omega), if_neg (by omega), if_neg (by omega), if_pos (by omega)]
theorem zDg_congr {f g : Nat → Int32} {e : Int} (h : ∀ j : Int, 0 ≤ j → j < e → f j.toNat = g j.toNat) {q : Int} (hq : 0 ≤ q) : zDg f e q ↔ zDg g e q := by
  constructor
  · intro ⟨a, b⟩; exact ⟨a, by rw [← h q hq a]; exact b⟩
  · intro ⟨a, b⟩; exact ⟨a, by rw [h q hq a]; exact b⟩
theorem zNe_congr {f g : Nat → Int32} {e : Int} (h : ∀ j : Int, 0 ≤ j → j < e → f j.toNat = g j.toNat) {p : Int} (hp : 0 ≤ p) : zNe f e p = zNe g e p := by
  unfold zNe
  simp only [zDg_congr h hp, zDg_congr h (show (0 : Int) ≤ p + 1 by omega), zDg_congr h (show (0 : Int) ≤ p + 2 by omega)]
theorem zNv_congr {f g : Nat → Int32} {e : Int} (h : ∀ j : Int, 0 ≤ j → j < e → f j.toNat = g j.toNat) {p q : Int} (hp : 0 ≤ p) (h1 : p ≤ q) (h2 : q ≤ p + 3) (h3 : q ≤ e) : zNv f p q = zNv g p q := by
  have a0 : p < e → zDv f p = zDv g p := fun a => by unfold zDv; rw [h p hp a]
  have a1 : p + 1 < e → zDv f (p + 1) = zDv g (p + 1) := fun a => by unfold zDv; rw [h (p + 1) (by omega) a]
  have a2 : p + 2 < e → zDv f (p + 2) = zDv g (p + 2) := fun a => by unfold zDv; rw [h (p + 2) (by omega) a]
  unfold zNv
  rcases (show q = p ∨ q = p + 1 ∨ q = p + 2 ∨ q = p + 3 by omega) with h4 | h4 | h4 | h4
  · rw [if_pos h4, if_pos h4]
  · rw [if_neg (by omega), if_pos h4, if_neg (by omega), if_pos h4, a0 (by omega)]
  · rw [if_neg (by omega), if_neg (by omega), if_pos h4, if_neg (by omega), if_neg (by omega), if_pos h4, a0 (by omega), a1 (by omega)]
  · rw [if_neg (by omega), if_neg (by omega), if_neg (by omega), if_neg (by omega), if_neg (by omega), if_neg (by omega), a0 (by omega), a1 (by omega), a2 (by omega)]
/-- a blank and a number between two numbers: the fault or -1, the place behind it, the number -/
def zN0 (f : Nat → Int32) (e p lo hi : Int) : Int × Int × Int := (if zNe f e p = p ∨ zNv f p (zNe f e p) < lo ∨ hi < zNv f p (zNe f e p) then p else -1, zNe f e p, zNv f p (zNe f e p))
def zN1 (f : Nat → Int32) (e p lo hi : Int) : Int × Int × Int := if p < e ∧ (f p.toNat).toInt = 32 then zN0 f e (p + 1) lo hi else (p, p, 0)
theorem zN0_congr {f g : Nat → Int32} {e : Int} (h : ∀ j : Int, 0 ≤ j → j < e → f j.toNat = g j.toNat) {p lo hi : Int} (hp : 0 ≤ p) (he : p ≤ e) : zN0 f e p lo hi = zN0 g e p lo hi := by
  have r := zNe_rg (f := f) he
  unfold zN0
  rw [← zNe_congr h hp, zNv_congr h hp r.1 r.2.1 r.2.2]
theorem zN1_congr {f g : Nat → Int32} {e : Int} (h : ∀ j : Int, 0 ≤ j → j < e → f j.toNat = g j.toNat) {p lo hi : Int} (hp : 0 ≤ p) : zN1 f e p lo hi = zN1 g e p lo hi := by
  unfold zN1
  by_cases h1 : p < e
  · rw [h p hp h1, zN0_congr h (show (0 : Int) ≤ p + 1 by omega) (by omega)]
  · rw [if_neg (fun z => h1 z.1), if_neg (fun z => h1 z.1)]
theorem zN1_rg {f : Nat → Int32} {e p lo hi : Int} (hp : 0 ≤ p) (he : p ≤ e) : p ≤ (zN1 f e p lo hi).2.1 ∧ (zN1 f e p lo hi).2.1 ≤ e ∧ -1 ≤ (zN1 f e p lo hi).1 ∧ ((zN1 f e p lo hi).1 = -1 → p + 2 ≤ (zN1 f e p lo hi).2.1 ∧ lo ≤ (zN1 f e p lo hi).2.2 ∧ (zN1 f e p lo hi).2.2 ≤ hi) := by
  unfold zN1
  split
  · rename_i h1
    have r := zNe_rg (f := f) (e := e) (p := p + 1) (by omega)
    unfold zN0
    refine ⟨by show p ≤ zNe f e (p + 1); omega, by show zNe f e (p + 1) ≤ e; omega, ?_, ?_⟩
    · dsimp only
      split <;> omega
    · dsimp only
      split
      · intro h2; omega
      · rename_i h2
        intro _
        omega
  · exact ⟨by show p ≤ p; omega, by show p ≤ e; omega, by show -1 ≤ p; omega, fun h2 => absurd (show p = -1 from h2) (by omega)⟩
/-- how many numbers a word has, between which each may be -/
def zCt (w : Int) : Int := if w = 3 then 3 else if w = 2 ∨ w = 8 then 2 else 1
def zLo (w k : Int) : Int := if w = 0 then 4 else if w = 7 then 1 else if w = 3 ∧ k = 2 then 1 else 0
def zHi (w k te : Int) : Int := if w = 0 then 40 else if w = 1 then te - 1 else if w = 2 then (if k = 0 then te - 1 else 9) else if w = 3 then (if k = 0 then 6 else if k = 1 then 9 else 60) else if w = 4 then 24 else if w = 5 then 300 else if w = 6 then 9 else if w = 7 then 9 else if w = 8 then (if k = 0 then 2 else 99) else te
/-- the numbers of an item: the fault or -1, the place behind them, the first of them -/
def zIn (f : Nat → Int32) (e p te w : Int) : Int × Int × Int :=
  let n1 := zN1 f e p (zLo w 0) (zHi w 0 te)
  if n1.1 = -1 ∧ zCt w ≠ 1 then
    let n2 := zN1 f e n1.2.1 (zLo w 1) (zHi w 1 te)
    if n2.1 = -1 ∧ zCt w ≠ 2 then
      let n3 := zN1 f e n2.2.1 (zLo w 2) (zHi w 2 te)
      (n3.1, n3.2.1, n1.2.2)
    else (n2.1, n2.2.1, n1.2.2)
  else n1
theorem zIn_rg {f : Nat → Int32} {e p te w : Int} (hp : 0 ≤ p) (he : p ≤ e) : p ≤ (zIn f e p te w).2.1 ∧ (zIn f e p te w).2.1 ≤ e ∧ -1 ≤ (zIn f e p te w).1 ∧ ((zIn f e p te w).1 = -1 → p + 2 ≤ (zIn f e p te w).2.1 ∧ zLo w 0 ≤ (zIn f e p te w).2.2 ∧ (zIn f e p te w).2.2 ≤ zHi w 0 te) := by
  have r1 := zN1_rg (f := f) (e := e) (p := p) (lo := zLo w 0) (hi := zHi w 0 te) hp he
  unfold zIn
  by_cases h1 : (zN1 f e p (zLo w 0) (zHi w 0 te)).1 = -1 ∧ zCt w ≠ 1
  · have r2 := zN1_rg (f := f) (e := e) (p := (zN1 f e p (zLo w 0) (zHi w 0 te)).2.1) (lo := zLo w 1) (hi := zHi w 1 te) (by omega) (by omega)
    simp only [if_pos h1]
    by_cases h2 : (zN1 f e (zN1 f e p (zLo w 0) (zHi w 0 te)).2.1 (zLo w 1) (zHi w 1 te)).1 = -1 ∧ zCt w ≠ 2
    · have r3 := zN1_rg (f := f) (e := e) (p := (zN1 f e (zN1 f e p (zLo w 0) (zHi w 0 te)).2.1 (zLo w 1) (zHi w 1 te)).2.1) (lo := zLo w 2) (hi := zHi w 2 te) (by omega) (by omega)
      simp only [if_pos h2]
      have q1 := r1.2.2.2 h1.1
      exact ⟨by omega, by omega, by omega, fun h3 => by have := r3.2.2.2 h3; omega⟩
    · simp only [if_neg h2]
      have q1 := r1.2.2.2 h1.1
      exact ⟨by omega, by omega, by omega, fun h3 => by have := r2.2.2.2 h3; omega⟩
  · simp only [if_neg h1]
    exact r1
theorem zIn_congr {f g : Nat → Int32} {e : Int} (h : ∀ j : Int, 0 ≤ j → j < e → f j.toNat = g j.toNat) {p te w : Int} (hp : 0 ≤ p) (he : p ≤ e) : zIn f e p te w = zIn g e p te w := by
  have r1 := zN1_rg (f := g) (e := e) (p := p) (lo := zLo w 0) (hi := zHi w 0 te) hp he
  have r2 := zN1_rg (f := g) (e := e) (p := (zN1 g e p (zLo w 0) (zHi w 0 te)).2.1) (lo := zLo w 1) (hi := zHi w 1 te) (by omega) (by omega)
  unfold zIn
  dsimp only
  rw [zN1_congr h hp, zN1_congr h (show (0 : Int) ≤ (zN1 g e p (zLo w 0) (zHi w 0 te)).2.1 by omega), zN1_congr h (show (0 : Int) ≤ (zN1 g e (zN1 g e p (zLo w 0) (zHi w 0 te)).2.1 (zLo w 1) (zHi w 1 te)).2.1 by omega)]
/-- an item: the fault or -1, the place behind it, the teeth and the pulls behind it -/
def zItem (f : Nat → Int32) (e p te pu : Int) : Int × Int × Int × Int :=
  let w := zFst f e p zWds 10
  if w = -1 then (p + (zMx f e p zWds 10 : Int), p, te, pu)
  else if w = 3 ∧ pu = 8 then (p, p, te, pu)
  else
    let n := zIn f e (p + ((zWds w.toNat).length : Int)) te w
    (n.1, n.2.1, if w = 0 then n.2.2 else te, if w = 3 then pu + 1 else pu)
theorem zFst_in {f : Nat → Int32} {e p : Int} {w : Nat} (hw : w < 10) (h : zFst f e p zWds 10 = (w : Int)) : zLc f e p (zWds w) = (zWds w).length ∧ p + ((zWds w).length : Int) ≤ e := by
  rcases zFst_spec (f := f) (e := e) (p := p) (ls := zWds) 10 with ⟨h1, -⟩ | ⟨k, hk, h1, h2, -⟩
  · omega
  · obtain rfl : k = w := by omega
    have hl := zWds_len k hk
    have := (zLc_pre (f := f) (e := e) (zWds k) p ((zWds k).length - 1) (by omega)).1
    exact ⟨h2, by omega⟩
theorem zItem_rg {f : Nat → Int32} {e p te pu : Int} (hp : 0 ≤ p) (he : p ≤ e) : -1 ≤ (zItem f e p te pu).1 ∧ ((zItem f e p te pu).1 = -1 → p + 4 ≤ (zItem f e p te pu).2.1 ∧ (zItem f e p te pu).2.1 ≤ e ∧ ((4 ≤ te ∧ te ≤ 40) → 4 ≤ (zItem f e p te pu).2.2.1 ∧ (zItem f e p te pu).2.2.1 ≤ 40) ∧ ((0 ≤ pu ∧ pu ≤ 8) → 0 ≤ (zItem f e p te pu).2.2.2 ∧ (zItem f e p te pu).2.2.2 ≤ 8)) := by
  unfold zItem
  rcases zFst_spec (f := f) (e := e) (p := p) (ls := zWds) 10 with ⟨h1, -⟩ | ⟨w, hw, h1, h2, -⟩
  · simp only [h1, if_pos]
    exact ⟨by omega, fun h3 => by omega⟩
  · have hl := zWds_len w hw
    have hf := zFst_in hw h1
    rw [h1]
    simp only [if_neg (show ¬ ((w : Int) = -1) by omega)]
    by_cases h3 : (w : Int) = 3 ∧ pu = 8
    · simp only [if_pos h3]
      exact ⟨by omega, fun h4 => by omega⟩
    · simp only [if_neg h3, Int.toNat_natCast]
      have r := zIn_rg (f := f) (e := e) (p := p + ((zWds w).length : Int)) (te := te) (w := (w : Int)) (by omega) hf.2
      refine ⟨r.2.2.1, fun h4 => ?_⟩
      have q := r.2.2.2 h4
      refine ⟨by omega, r.2.1, fun h5 => ?_, fun h5 => ?_⟩
      · by_cases h6 : (w : Int) = 0
        · rw [if_pos h6]
          have q1 := q.2.1
          have q2 := q.2.2
          rw [h6] at q1 q2 ⊢
          exact ⟨q1, q2⟩
        · rw [if_neg h6]; exact h5
      · by_cases h6 : (w : Int) = 3
        · rw [if_pos h6]; omega
        · rw [if_neg h6]; exact h5
theorem zItem_congr {f g : Nat → Int32} {e : Int} (h : ∀ j : Int, 0 ≤ j → j < e → f j.toNat = g j.toNat) {p te pu : Int} (hp : 0 ≤ p) (he : p ≤ e) : zItem f e p te pu = zItem g e p te pu := by
  unfold zItem
  rw [zFst_congr h hp, zMx_congr h hp]
  rcases zFst_spec (f := g) (e := e) (p := p) (ls := zWds) 10 with ⟨h1, -⟩ | ⟨w, hw, h1, h2, -⟩
  · simp only [h1, if_pos]
  · have hf := zFst_in hw h1
    have hl := zWds_len w hw
    rw [h1]
    simp only [Int.toNat_natCast]
    rw [zIn_congr h (show (0 : Int) ≤ p + ((zWds w).length : Int) by omega) hf.2]
/-- the state ahead of the k-th item, if the reading comes to it -/
def zRgo (f : Nat → Int32) (e te pu : Int) : Nat → Option (Int × Int × Int)
  | 0 => some (0, te, pu)
  | k + 1 => match zRgo f e te pu k with
    | none => none
    | some (p, t, u) => if (zItem f e p t u).1 = -1 ∧ (zItem f e p t u).2.1 < e ∧ (f (zItem f e p t u).2.1.toNat).toInt = 59 then some ((zItem f e p t u).2.1 + 1, (zItem f e p t u).2.2.1, (zItem f e p t u).2.2.2) else none
theorem zRgo_s {f : Nat → Int32} {e te pu : Int} {k : Nat} : zRgo f e te pu (k + 1) = (match zRgo f e te pu k with
    | none => none
    | some (p, t, u) => if (zItem f e p t u).1 = -1 ∧ (zItem f e p t u).2.1 < e ∧ (f (zItem f e p t u).2.1.toNat).toInt = 59 then some ((zItem f e p t u).2.1 + 1, (zItem f e p t u).2.2.1, (zItem f e p t u).2.2.2) else none) := rfl
/-- the reading ends with the k-th item: with this fault (or -1, and these teeth and pulls) -/
def zEnd (f : Nat → Int32) (e te pu : Int) (k : Nat) (r t2 u2 : Int) : Prop := ∃ p t u : Int, zRgo f e te pu k = some (p, t, u) ∧ (((zItem f e p t u).1 ≠ -1 ∧ r = (zItem f e p t u).1) ∨ ((zItem f e p t u).1 = -1 ∧ e ≤ (zItem f e p t u).2.1 ∧ r = -1 ∧ t2 = (zItem f e p t u).2.2.1 ∧ u2 = (zItem f e p t u).2.2.2) ∨ ((zItem f e p t u).1 = -1 ∧ (zItem f e p t u).2.1 < e ∧ (f (zItem f e p t u).2.1.toNat).toInt ≠ 59 ∧ r = (zItem f e p t u).2.1))
theorem zRgo_rg {f : Nat → Int32} {e te pu : Int} (he : 0 ≤ e) (ht : 4 ≤ te ∧ te ≤ 40) (hu : 0 ≤ pu ∧ pu ≤ 8) : ∀ (k : Nat) (p t u : Int), zRgo f e te pu k = some (p, t, u) → 5 * (k : Int) ≤ p ∧ p ≤ e ∧ (4 ≤ t ∧ t ≤ 40) ∧ 0 ≤ u ∧ u ≤ 8 := by
  intro k
  induction k with
  | zero =>
    intro p t u h
    simp only [zRgo, Option.some.injEq, Prod.mk.injEq] at h
    obtain ⟨rfl, rfl, rfl⟩ := h
    exact ⟨by omega, he, ht, hu⟩
  | succ k ih =>
    intro p t u h
    rw [zRgo_s] at h
    split at h
    · exact absurd h (by simp)
    · rename_i p0 t0 u0 h0
      obtain ⟨a1, a2, a3, a4⟩ := ih p0 t0 u0 h0
      split at h
      · rename_i h1
        simp only [Option.some.injEq, Prod.mk.injEq] at h
        obtain ⟨rfl, rfl, rfl⟩ := h
        obtain ⟨b1, b2, b3, b4⟩ := (zItem_rg (f := f) (e := e) (te := t0) (pu := u0) (show (0 : Int) ≤ p0 by omega) a2).2 h1.1
        exact ⟨by omega, by omega, b3 a3, b4 a4⟩
      · exact absurd h (by simp)
theorem zRgo_le {f : Nat → Int32} {e te pu : Int} : ∀ (k n : Nat), n ≤ k → zRgo f e te pu n = none → zRgo f e te pu k = none := by
  intro k
  induction k with
  | zero => intro n hn h; obtain rfl : n = 0 := (by omega); exact h
  | succ k ih =>
    intro n hn h
    rcases Nat.lt_or_ge n (k + 1) with h1 | h1
    · have h2 := ih n (by omega) h
      simp only [zRgo_s, h2]
    · obtain rfl : n = k + 1 := by omega
      exact h
theorem zEnd_stop {f : Nat → Int32} {e te pu : Int} {k : Nat} {r t2 u2 : Int} (h : zEnd f e te pu k r t2 u2) : zRgo f e te pu (k + 1) = none := by
  obtain ⟨p, t, u, h1, h2⟩ := h
  rw [zRgo_s]
  rw [h1]
  simp only
  rw [if_neg]
  rcases h2 with ⟨a, -⟩ | ⟨-, b, -⟩ | ⟨-, -, c, -⟩
  · exact fun z => a z.1
  · exact fun z => absurd z.2.1 (by omega)
  · exact fun z => c z.2.2
/-- the reading ends at one place, in one way -/
theorem zEnd_one {f : Nat → Int32} {e te pu : Int} {k k2 : Nat} {r t u r2 t2 u2 : Int} (he : 0 ≤ e) (ht : 4 ≤ te ∧ te ≤ 40) (hu : 0 ≤ pu ∧ pu ≤ 8) (h : zEnd f e te pu k r t u) (h2 : zEnd f e te pu k2 r2 t2 u2) : k = k2 ∧ r = r2 ∧ (r = -1 → t = t2 ∧ u = u2) := by
  have hk : k = k2 := by
    have s1 := zEnd_stop h
    have s2 := zEnd_stop h2
    obtain ⟨p, a, b, h3, -⟩ := h
    obtain ⟨p2, a2, b2, h4, -⟩ := h2
    rcases Nat.lt_trichotomy k k2 with h5 | h5 | h5
    · rw [zRgo_le k2 (k + 1) (by omega) s1] at h4; exact absurd h4 (by simp)
    · exact h5
    · rw [zRgo_le k (k2 + 1) (by omega) s2] at h3; exact absurd h3 (by simp)
  subst hk
  obtain ⟨p, a, b, h3, h5⟩ := h
  obtain ⟨p2, a2, b2, h4, h6⟩ := h2
  rw [h3] at h4
  simp only [Option.some.injEq, Prod.mk.injEq] at h4
  obtain ⟨rfl, rfl, rfl⟩ := h4
  have r0 := zRgo_rg he ht hu k p a b h3
  have r1 := (zItem_rg (f := f) (e := e) (te := a) (pu := b) (show (0 : Int) ≤ p by omega) r0.2.1).2
  refine ⟨rfl, ?_, fun hr => ?_⟩
  · rcases h5 with ⟨c1, c2⟩ | ⟨c1, c2, c3, -⟩ | ⟨c1, c2, c3, c4⟩ <;> rcases h6 with ⟨d1, d2⟩ | ⟨d1, d2, d3, -⟩ | ⟨d1, d2, d3, d4⟩ <;> first | omega | exact absurd c1 d1 | exact absurd d1 c1
  · rcases h5 with ⟨c1, c2⟩ | ⟨c1, c2, c3, c4, c5⟩ | ⟨c1, c2, c3, c4⟩ <;> rcases h6 with ⟨d1, d2⟩ | ⟨d1, d2, d3, d4, d5⟩ | ⟨d1, d2, d3, d4⟩ <;> first | exact ⟨c4.trans d4.symm, c5.trans d5.symm⟩ | omega | (exfalso; exact absurd c1 d1) | (exfalso; exact absurd d1 c1) | (exfalso; have := (r1 c1).1; omega)
theorem zRgo_congr {f g : Nat → Int32} {e te pu : Int} (h : ∀ j : Int, 0 ≤ j → j < e → f j.toNat = g j.toNat) (he : 0 ≤ e) (ht : 4 ≤ te ∧ te ≤ 40) (hu : 0 ≤ pu ∧ pu ≤ 8) : ∀ k : Nat, zRgo f e te pu k = zRgo g e te pu k := by
  intro k
  induction k with
  | zero => rfl
  | succ k ih =>
    rw [zRgo_s, zRgo_s]
    rw [ih]
    cases h1 : zRgo g e te pu k with
    | none => rfl
    | some q =>
      obtain ⟨p, t, u⟩ := q
      have r := zRgo_rg he ht hu k p t u h1
      simp only
      rw [zItem_congr h (show (0 : Int) ≤ p by omega) r.2.1]
      by_cases h2 : (zItem g e p t u).1 = -1 ∧ (zItem g e p t u).2.1 < e
      · have r2 := (zItem_rg (f := g) (e := e) (te := t) (pu := u) (show (0 : Int) ≤ p by omega) r.2.1).2 h2.1
        rw [h _ (by omega) h2.2]
      · rw [if_neg (fun z => h2 ⟨z.1, z.2.1⟩), if_neg (fun z => h2 ⟨z.1, z.2.1⟩)]
theorem zEnd_congr {f g : Nat → Int32} {e te pu : Int} (h : ∀ j : Int, 0 ≤ j → j < e → f j.toNat = g j.toNat) (he : 0 ≤ e) (ht : 4 ≤ te ∧ te ≤ 40) (hu : 0 ≤ pu ∧ pu ≤ 8) {k : Nat} {r t2 u2 : Int} (h0 : zEnd f e te pu k r t2 u2) : zEnd g e te pu k r t2 u2 := by
  obtain ⟨p, t, u, h1, h2⟩ := h0
  rw [zRgo_congr h he ht hu] at h1
  have r0 := zRgo_rg he ht hu k p t u h1
  rw [zItem_congr h (show (0 : Int) ≤ p by omega) r0.2.1] at h2
  refine ⟨p, t, u, h1, ?_⟩
  rcases h2 with h2 | h2 | ⟨a, b, c, d⟩
  · exact Or.inl h2
  · exact Or.inr (Or.inl h2)
  · have r2 := (zItem_rg (f := g) (e := e) (te := t) (pu := u) (show (0 : Int) ≤ p by omega) r0.2.1).2 a
    exact Or.inr (Or.inr ⟨a, b, by rw [← h _ (by omega) b]; exact c, d⟩)
/-- how many of the items kept are pulls; the teeth behind them -/
def zCP (fi : Nat → Int32) : Nat → Int
  | 0 => 0
  | n + 1 => zCP fi n + (if (fi (4 * n)).toInt = 3 then 1 else 0)
def zLT (fi : Nat → Int32) (te : Int) : Nat → Int
  | 0 => te
  | n + 1 => if (fi (4 * n)).toInt = 0 then (fi (4 * n + 1)).toInt else zLT fi te n
theorem zCP_s {f : Nat → Int32} {n : Nat} : zCP f (n + 1) = zCP f n + (if (f (4 * n)).toInt = 3 then 1 else 0) := rfl
theorem zLT_s {f : Nat → Int32} {te : Int} {n : Nat} : zLT f te (n + 1) = (if (f (4 * n)).toInt = 0 then (f (4 * n + 1)).toInt else zLT f te n) := rfl
theorem zCP_congr {f g : Nat → Int32} : ∀ n : Nat, (∀ j : Nat, j < 4 * n → f j = g j) → zCP f n = zCP g n := by
  intro n
  induction n with
  | zero => intro _; rfl
  | succ n ih => intro h; rw [zCP_s, zCP_s, ih (fun j hj => h j (by omega)), h (4 * n) (by omega)]
theorem zLT_congr {f g : Nat → Int32} {te : Int} : ∀ n : Nat, (∀ j : Nat, j < 4 * n → f j = g j) → zLT f te n = zLT g te n := by
  intro n
  induction n with
  | zero => intro _; rfl
  | succ n ih => intro h; rw [zLT_s, zLT_s, ih (fun j hj => h j (by omega)), h (4 * n) (by omega), h (4 * n + 1) (by omega)]
/-! the walks' steps over these -/
theorem zLt_end {f : Nat → Int32} {e p : Int} {w : Nat} {i2 : Int32} (hw : w < 10) (h0 : 0 ≤ i2.toInt) (hlen : i2.toInt ≤ (zLen.getD w 0 : Nat)) (hinv : ∀ j : Nat, j < i2.toInt.toNat → p + (j : Int) < e ∧ f (p + (j : Int)).toNat = (zWds w).getD j 0) (hx : i2.toInt = (zLen.getD w 0 : Nat) ∨ ¬ (p + i2.toInt < e ∧ f (p + i2.toInt).toNat = (zWds w).getD i2.toInt.toNat 0)) : i2.toInt = (zLc f e p (zWds w) : Nat) := by
  have hl := zWds_len w hw
  have e1 : zLc f e p (zWds w) = i2.toInt.toNat := zLc_eq _ _ _ (by omega) hinv (by
    rcases hx with hx | hx
    · exact Or.inl (by omega)
    · refine Or.inr (fun h => hx ?_)
      rw [show ((i2.toInt.toNat : Nat) : Int) = i2.toInt from by omega] at h
      exact h)
  omega
theorem zLt_no {f : Nat → Int32} {e p : Int} {w : Nat} {i2 x r10 r12 : Int32} (hx : x.toInt = p + i2.toInt) (hr : r10 = (zByt.getD w []).getD i2.toNatClampNeg 0) (hs : r12 = 1 ↔ (0 ≤ x.toInt ∧ x.toInt < e ∧ f x.toNatClampNeg = r10)) (h0 : 0 ≤ p + i2.toInt) (hz : r12.toInt = 0) : ¬ (p + i2.toInt < e ∧ f (p + i2.toInt).toNat = (zWds w).getD i2.toInt.toNat 0) := fun h => by
  have h9 : r12 = 1 := hs.mpr ⟨by omega, by omega, by
    have h8 : x.toNatClampNeg = (p + i2.toInt).toNat := by show x.toInt.toNat = _; rw [hx]
    rw [h8, h.2, hr]; rfl⟩
  rw [h9] at hz
  exact absurd hz (by decide)
theorem zLt_S {f : Nat → Int32} {e p : Int} {w : Nat} {i2 x x2 r10 r12 : Int32} (hinv : ∀ j : Nat, j < i2.toInt.toNat → p + (j : Int) < e ∧ f (p + (j : Int)).toNat = (zWds w).getD j 0) (hx : x.toInt = p + i2.toInt) (hr : r10 = (zByt.getD w []).getD i2.toNatClampNeg 0) (hs : r12 = 1 ↔ (0 ≤ x.toInt ∧ x.toInt < e ∧ f x.toNatClampNeg = r10)) (h1 : r12.toInt = 1) (h0 : 0 ≤ i2.toInt) (h2 : x2.toInt = i2.toInt + 1) : ∀ j : Nat, j < x2.toInt.toNat → p + (j : Int) < e ∧ f (p + (j : Int)).toNat = (zWds w).getD j 0 := by
  intro j hj
  rcases Nat.lt_or_ge j i2.toInt.toNat with h3 | h3
  · exact hinv j h3
  · obtain rfl : j = i2.toInt.toNat := by omega
    obtain ⟨a, b, c⟩ := hs.mp (zf_val h1 (by decide))
    have h8 : x.toNatClampNeg = (p + i2.toInt).toNat := by show x.toInt.toNat = _; rw [hx]
    rw [h8, hr] at c
    rw [show ((i2.toInt.toNat : Nat) : Int) = i2.toInt from by omega]
    exact ⟨by omega, c⟩
theorem zFst_keep {f : Nat → Int32} {e p : Int} {ls : Nat → List Int32} {n : Nat} (h : zFst f e p ls n ≠ -1) : ∀ k : Nat, zFst f e p ls (n + k) = zFst f e p ls n := by
  intro k
  induction k with
  | zero => rfl
  | succ k ih =>
    rw [show n + (k + 1) = (n + k) + 1 from rfl]
    rw [zFst_s]
    rw [if_neg (by rw [ih]; exact h), ih]
theorem zFst_hit {f : Nat → Int32} {e p : Int} {ls : Nat → List Int32} {n : Nat} (h : zFst f e p ls n = -1) (hn : n < 10) (hw : zLc f e p (ls n) = (ls n).length) : zFst f e p ls 10 = (n : Int) := by
  have h1 : zFst f e p ls (n + 1) = (n : Int) := by rw [zFst_s, if_pos h, if_pos hw]
  have h2 := zFst_keep (f := f) (e := e) (p := p) (ls := ls) (n := n + 1) (by rw [h1]; omega) (9 - n)
  rw [show n + 1 + (9 - n) = 10 from by omega] at h2
  rw [h2, h1]
theorem zRW {f : Nat → Int32} {e p : Int} {u : Nat} {i4 ra rb ru r rf rf2 rp2 : Int} (hu : u < 10) (hi : (u : Int) = i4) (hv : zFst f e p zWds i4.toNat = -1) (ha : ra = (zLc f e p (zWds u) : Nat)) (hb : rb = (zLen.getD u 0 : Nat)) (hab : ra = rb) (hD : (i4 = 3 ∧ ru = 8 ∧ r = -1 ∧ rf2 = p) ∨ (¬ (i4 = 3 ∧ ru = 8) ∧ r = i4 ∧ rf2 = rf ∧ rp2 = p + ra)) : (zFst f e p zWds 10 = -1 ∧ r = -1 ∧ rf2 = p + (zMx f e p zWds 10 : Nat)) ∨ (zFst f e p zWds 10 = 3 ∧ ru = 8 ∧ r = -1 ∧ rf2 = p) ∨ (zFst f e p zWds 10 = r ∧ 0 ≤ r ∧ ¬ (r = 3 ∧ ru = 8) ∧ rf2 = rf ∧ rp2 = p + ((zWds r.toNat).length : Nat)) := by
  have hl := zWds_len u hu
  have e1 : i4.toNat = u := by omega
  rw [e1] at hv
  have h1 := zFst_hit hv hu (by omega)
  rcases hD with ⟨a, b, c, d⟩ | ⟨a, b, c, d⟩
  · exact Or.inr (Or.inl ⟨by omega, b, c, d⟩)
  · refine Or.inr (Or.inr ⟨by omega, by omega, ?_, c, ?_⟩)
    · rw [b]; exact a
    · rw [b, e1]; omega
theorem zRW_S {f : Nat → Int32} {e p : Int} {u : Nat} {i4 ra rb x : Int} (hu : u < 10) (hi : (u : Int) = i4) (hv : zFst f e p zWds i4.toNat = -1) (ha : ra = (zLc f e p (zWds u) : Nat)) (hb : rb = (zLen.getD u 0 : Nat)) (hab : ra ≠ rb) (hx : x = i4 + 1) : zFst f e p zWds x.toNat = -1 := by
  have hl := zWds_len u hu
  have e1 : i4.toNat = u := by omega
  rw [e1] at hv
  rw [show x.toNat = u + 1 from by omega]
  rw [zFst_s]
  rw [if_pos hv, if_neg (by omega)]
theorem zRW_M {f : Nat → Int32} {e p : Int} {u : Nat} {i4 ra x m m2 : Int} (hi : (u : Int) = i4) (ha : ra = (zLc f e p (zWds u) : Nat)) (hx : x = i4 + 1) (hm : m = (zMx f e p zWds i4.toNat : Nat)) (h2 : m ≤ m2 ∧ ra ≤ m2 ∧ (m2 = m ∨ m2 = ra)) : m2 = (zMx f e p zWds x.toNat : Nat) := by
  have e1 : i4.toNat = u := by omega
  rw [e1] at hm
  rw [show x.toNat = u + 1 from by omega]
  rw [zMx_s]
  split <;> omega
theorem zSt_yes {f : Nat → Int32} {e : Int} {x ch r : Int32} (hs : r = 1 ↔ (0 ≤ x.toInt ∧ x.toInt < e ∧ f x.toNatClampNeg = ch)) (h : r.toInt = 1) : x.toInt < e ∧ (f x.toInt.toNat).toInt = ch.toInt := by
  obtain ⟨a, b, c⟩ := hs.mp (zf_val h (by decide))
  exact ⟨b, by rw [show f x.toInt.toNat = ch from c]⟩
theorem zSt_no {f : Nat → Int32} {e : Int} {x ch r : Int32} (hs : r = 1 ↔ (0 ≤ x.toInt ∧ x.toInt < e ∧ f x.toNatClampNeg = ch)) (h : r.toInt = 0) (h0 : 0 ≤ x.toInt) : ¬ (x.toInt < e ∧ (f x.toInt.toNat).toInt = ch.toInt) := fun h1 => by
  have h9 : r = 1 := hs.mpr ⟨h0, h1.1, Int32.toInt_inj.mp h1.2⟩
  rw [h9] at h
  exact absurd h (by decide)
theorem zAll_S {P : Int → Prop} {a i x : Int} (h : ∀ j : Int, a ≤ j → j < i → P j) (hi : P i) (hx : x = i + 1) : ∀ j : Int, a ≤ j → j < x → P j := by
  intro j h1 h2
  by_cases h3 : j = i
  · rw [h3]; exact hi
  · exact h j h1 (by omega)
theorem zN1_no {f : Nat → Int32} {e p lo hi : Int} (h : ¬ (p < e ∧ (f p.toNat).toInt = 32)) : zN1 f e p lo hi = (p, p, 0) := if_neg h
theorem zN1_yes {f : Nat → Int32} {e p p1 lo hi lo2 hi2 q v r : Int} (h : p < e ∧ (f p.toNat).toInt = 32) (h1 : p1 = p + 1) (hq : q = zNe f e p1) (hv : v = zNv f p1 q) (hl : lo = lo2) (hh : hi = hi2) (hr : (r = p1 ∧ (q = p1 ∨ v < lo2 ∨ hi2 < v)) ∨ (r = -1 ∧ q ≠ p1 ∧ lo2 ≤ v ∧ v ≤ hi2)) : zN1 f e p lo hi = (r, q, v) := by
  subst h1
  subst hl
  subst hh
  unfold zN1 zN0
  rw [if_pos h, ← hq, ← hv]
  rcases hr with ⟨a, b⟩ | ⟨a, b⟩
  · rw [if_pos b, a]
  · rw [if_neg (by omega), a]
theorem zIn_a {f : Nat → Int32} {e p te w r q v : Int} (h : zN1 f e p (zLo w 0) (zHi w 0 te) = (r, q, v)) (hc : r ≠ -1 ∨ zCt w = 1) : zIn f e p te w = (r, q, v) := by
  unfold zIn
  rw [h]
  simp only
  rw [if_neg]
  rcases hc with hc | hc
  · exact fun z => hc z.1
  · exact fun z => z.2 hc
theorem zIn_b {f : Nat → Int32} {e p te w q v r2 q2 v2 : Int} (h : zN1 f e p (zLo w 0) (zHi w 0 te) = (-1, q, v)) (hc : zCt w ≠ 1) (h2 : zN1 f e q (zLo w 1) (zHi w 1 te) = (r2, q2, v2)) (hc2 : r2 ≠ -1 ∨ zCt w = 2) : zIn f e p te w = (r2, q2, v) := by
  unfold zIn
  rw [h]
  simp only
  rw [if_pos ⟨trivial, hc⟩, h2]
  simp only
  rw [if_neg]
  rcases hc2 with hc2 | hc2
  · exact fun z => hc2 z.1
  · exact fun z => z.2 hc2
theorem zIn_c {f : Nat → Int32} {e p te w q v q2 v2 r3 q3 v3 : Int} (h : zN1 f e p (zLo w 0) (zHi w 0 te) = (-1, q, v)) (hc : zCt w ≠ 1) (h2 : zN1 f e q (zLo w 1) (zHi w 1 te) = (-1, q2, v2)) (hc2 : zCt w ≠ 2) (h3 : zN1 f e q2 (zLo w 2) (zHi w 2 te) = (r3, q3, v3)) : zIn f e p te w = (r3, q3, v) := by
  unfold zIn
  rw [h]
  simp only
  rw [if_pos ⟨trivial, hc⟩, h2]
  simp only
  rw [if_pos ⟨trivial, hc2⟩, h3]
theorem zItem_none {f : Nat → Int32} {e p te pu : Int} (h : zFst f e p zWds 10 = -1) : zItem f e p te pu = (p + (zMx f e p zWds 10 : Int), p, te, pu) := by
  unfold zItem
  simp only [h, if_pos]
theorem zItem_room {f : Nat → Int32} {e p te pu : Int} (h : zFst f e p zWds 10 = 3) (hp : pu = 8) : zItem f e p te pu = (p, p, te, pu) := by
  unfold zItem
  rw [h]
  simp only
  rw [if_neg (by omega), if_pos ⟨trivial, hp⟩]
theorem zItem_w {f : Nat → Int32} {e p p1 te pu w r q v : Int} (h : zFst f e p zWds 10 = w) (h0 : 0 ≤ w) (hn : ¬ (w = 3 ∧ pu = 8)) (hp : p1 = p + ((zWds w.toNat).length : Nat)) (hi : zIn f e p1 te w = (r, q, v)) : zItem f e p te pu = (r, q, if w = 0 then v else te, if w = 3 then pu + 1 else pu) := by
  subst hp
  unfold zItem
  rw [h]
  simp only
  rw [if_neg (by omega), if_neg hn, hi]
theorem zRgo_S {f : Nat → Int32} {e te pu p t u p2 t2 u2 : Int} {k k2 : Nat} (h : zRgo f e te pu k = some (p, t, u)) (h1 : (zItem f e p t u).1 = -1) (h2 : (zItem f e p t u).2.1 < e) (h3 : (f (zItem f e p t u).2.1.toNat).toInt = 59) (e1 : p2 = (zItem f e p t u).2.1 + 1) (e2 : t2 = (zItem f e p t u).2.2.1) (e3 : u2 = (zItem f e p t u).2.2.2) (hk : k2 = k + 1) : zRgo f e te pu k2 = some (p2, t2, u2) := by
  subst hk e1 e2 e3
  rw [zRgo_s]
  rw [h]
  simp only
  rw [if_pos ⟨h1, h2, h3⟩]
theorem zEnd_a {f : Nat → Int32} {e te pu p t u r t2 u2 : Int} {k k2 : Nat} (h : zRgo f e te pu k = some (p, t, u)) (h1 : (zItem f e p t u).1 ≠ -1) (h2 : r = (zItem f e p t u).1) (hk : k2 = k) : zEnd f e te pu k2 r t2 u2 := by
  subst hk
  exact ⟨p, t, u, h, Or.inl ⟨h1, h2⟩⟩
theorem zEnd_b {f : Nat → Int32} {e te pu p t u r t2 u2 : Int} {k k2 : Nat} (h : zRgo f e te pu k = some (p, t, u)) (h1 : (zItem f e p t u).1 = -1) (h2 : e ≤ (zItem f e p t u).2.1) (h3 : r = -1) (e2 : t2 = (zItem f e p t u).2.2.1) (e3 : u2 = (zItem f e p t u).2.2.2) (hk : k2 = k) : zEnd f e te pu k2 r t2 u2 := by
  subst hk
  exact ⟨p, t, u, h, Or.inr (Or.inl ⟨h1, h2, h3, e2, e3⟩)⟩
theorem zEnd_c {f : Nat → Int32} {e te pu p t u r t2 u2 : Int} {k k2 : Nat} (h : zRgo f e te pu k = some (p, t, u)) (h1 : (zItem f e p t u).1 = -1) (h2 : (zItem f e p t u).2.1 < e) (h3 : (f (zItem f e p t u).2.1.toNat).toInt ≠ 59) (h4 : r = (zItem f e p t u).2.1) (hk : k2 = k) : zEnd f e te pu k2 r t2 u2 := by
  subst hk
  exact ⟨p, t, u, h, Or.inr (Or.inr ⟨h1, h2, h3, h4⟩)⟩
theorem zCP_S {f g : Nat → Int32} {n m : Nat} {i : Int} {a b c : Int} (hn : (n : Int) = i) (hm : (m : Int) = i + 1) (hfr : ∀ j : Nat, j < 4 * n → g j = f j) (ha : a = b + zCP f n) (h3 : (g (4 * n)).toInt = 3 → c = a + 1) (h4 : (g (4 * n)).toInt ≠ 3 → c = a) : c = b + zCP g m := by
  obtain rfl : m = n + 1 := by omega
  rw [zCP_s]
  rw [zCP_congr n hfr]
  by_cases h : (g (4 * n)).toInt = 3
  · rw [if_pos h]; have := h3 h; omega
  · rw [if_neg h]; have := h4 h; omega
theorem zLT_S {f g : Nat → Int32} {n m : Nat} {i : Int} {a b c : Int} (hn : (n : Int) = i) (hm : (m : Int) = i + 1) (hfr : ∀ j : Nat, j < 4 * n → g j = f j) (ha : a = zLT f b n) (h3 : (g (4 * n)).toInt = 0 → c = (g (4 * n + 1)).toInt) (h4 : (g (4 * n)).toInt ≠ 0 → c = a) : c = zLT g b m := by
  obtain rfl : m = n + 1 := by omega
  rw [zLT_s]
  by_cases h : (g (4 * n)).toInt = 0
  · rw [if_pos h]; exact h3 h
  · rw [if_neg h, zLT_congr n hfr, ← ha]; exact h4 h
theorem zCP_mono {f : Nat → Int32} : ∀ (m n : Nat), n ≤ m → zCP f n ≤ zCP f m := by
  intro m
  induction m with
  | zero => intro n hn; obtain rfl : n = 0 := (by omega); exact Int.le_refl _
  | succ m ih =>
    intro n hn
    rcases Nat.lt_or_ge n (m + 1) with h | h
    · have h1 := ih n (by omega)
      rw [zCP_s]
      split <;> omega
    · obtain rfl : n = m + 1 := by omega
      exact Int.le_refl _
theorem zCP_le {f : Nat → Int32} {n m : Nat} {a : Int} (h : a + zCP f m ≤ 8) (hn : n < m) (h3 : (f (4 * n)).toInt = 3) : a + zCP f n < 8 := by
  have h1 := zCP_mono (f := f) m (n + 1) (by omega)
  rw [zCP_s] at h1
  rw [if_pos h3] at h1
  omega
/-- what jacket answers, and what comes of it, by the letters -/
def zJac (f : Nat → Int32) (si s he lf cn sz r lf2 cn2 sz2 : Int) : Prop :=
  ((s < 0 ∨ 7 < s) ∧ r = -1 ∧ lf2 = lf ∧ cn2 = cn ∧ sz2 = sz) ∨ ((0 ≤ s ∧ s ≤ 7) ∧ he = -1 ∧ r = -3 ∧ lf2 = lf ∧ cn2 = cn ∧ sz2 = sz) ∨ ((0 ≤ s ∧ s ≤ 7) ∧ (0 ≤ he ∧ he < 100) ∧ r = -2 ∧ lf2 = lf ∧ cn2 = cn ∧ sz2 = sz) ∨
  ((0 ≤ s ∧ s ≤ 7) ∧ 100 ≤ he ∧ ∃ (k : Nat) (R T U : Int), zEnd f si sz cn k R T U ∧ ((R ≠ -1 ∧ r = -6 ∧ lf2 = R ∧ cn2 = cn ∧ sz2 = sz) ∨ (R = -1 ∧ r = (k : Int) + 1 ∧ lf2 = -1 ∧ cn2 = U ∧ sz2 = T)))
/-! the reference's letters -/
def zMF (g : Nat → Int64) (b : Int) : Nat → Int32 := fun j => zChX g (b + (j : Int)).toNat
theorem zMF_at {g : Nat → Int64} {b q : Int} (hq : 0 ≤ q) : zMF g b q.toNat = zChX g (b + q).toNat := by
  unfold zMF
  rw [show ((q.toNat : Nat) : Int) = q from by omega]
theorem zWoB : ∀ w : Nat, w < 10 → (zBls w).length = zEn w - zBg w ∧ (zWds w).length + 1 = zEn w - zBg w := by decide
theorem zWoL_at : ∀ w : Nat, w < 10 → ∀ k : Nat, k < 8 → k < zEn w - zBg w → zWoL.getD (zBg w + k) 0 = (zBls w).getD k 0 := by decide +kernel
theorem zMW_lc {g : Nat → Int64} {b e pl : Int} {w : Nat} {f : Nat → Int32} {n : Nat} (hf : zHWo f) (hw : w < 10) (hp : 0 ≤ pl) (h : zStN g b e pl f (zBg w) n) (hn : n ≤ zEn w - zBg w) (hx : n = zEn w - zBg w ∨ ¬ (pl + (n : Int) < e ∧ zChX g (b + (pl + (n : Int))).toNat = f (zBg w + n))) : zLc (zMF g b) e pl (zBls w) = n := by
  have h1 := zWoB w hw
  have h2 := zBE w hw
  have h3 := zWds_len w hw
  have ha : ∀ k : Nat, k < zEn w - zBg w → f (zBg w + k) = (zBls w).getD k 0 := fun k hk => by
    rw [hf (zBg w + k) (by omega)]
    exact zWoL_at w hw k (by omega) hk
  refine zLc_eq _ _ _ (by omega) (fun j hj => ?_) ?_
  · obtain ⟨a, c⟩ := h j hj
    refine ⟨a, ?_⟩
    rw [zMF_at (by omega), c, ha j (by omega)]
  · rcases hx with hx | hx
    · exact Or.inl (by omega)
    · by_cases h4 : n = zEn w - zBg w
      · exact Or.inl (by omega)
      · refine Or.inr (fun z => hx ⟨z.1, ?_⟩)
        rw [ha n (by omega), ← z.2, zMF_at (by omega)]
theorem zFst_no {f : Nat → Int32} {e p : Int} {ls : Nat → List Int32} {n m k : Nat} (h : zFst f e p ls n = -1) (h1 : zLc f e p (ls n) = k) (h2 : k ≠ (ls n).length) (hm : m = n + 1) : zFst f e p ls m = -1 := by
  subst hm
  rw [zFst_s]
  rw [if_pos h, if_neg (by omega)]
theorem zMx_to {f : Nat → Int32} {e p q far far2 : Int} {ls : Nat → List Int32} {n m k : Nat} (h : far = q + (zMx f e p ls n : Nat)) (h1 : zLc f e p (ls n) = k) (h2 : (far2 = far ∧ q + (k : Int) ≤ far) ∨ (far2 = q + (k : Int) ∧ far < q + (k : Int))) (hm : m = n + 1) : far2 = q + (zMx f e p ls m : Nat) := by
  subst hm
  rw [zMx_s]
  split <;> omega
theorem zFst_3 {f : Nat → Int32} {e p : Int} (h : zLc f e p (zWds 3) = 4) : zFst f e p zWds 10 = 3 := by
  have hl : (zWds 3).length = 4 := by decide
  rcases zFst_spec (f := f) (e := e) (p := p) (ls := zWds) 10 with ⟨-, h2⟩ | ⟨k, hk, h1, h2, -⟩
  · exact absurd (h.trans hl.symm) (h2 3 (by decide))
  · by_cases h3 : k = 3
    · rw [h1, h3]; rfl
    · have h4 := zLc_one (f := f) (e := e) (p := p) (v := k) (w := 3) hk (by decide) h3 (by omega)
      have h5 := zWds_len k hk
      omega
theorem zFst_w {f : Nat → Int32} {e p : Int} {w : Nat} (hw : w < 10) (h : zFst f e p zWds 10 = (w : Int)) : zLc f e p (zWds w) = (zWds w).length := (zFst_in hw h).1
/-- 'pull' stands, letter by letter -/
theorem zPul_iff {g : Nat → Int64} {b e pl : Int} (hp : 0 ≤ pl) : zLc (zMF g b) e pl (zWds 3) = 4 ↔ (pl + 1 + 1 + 1 < e ∧ (zChX g (b + pl).toNat).toInt = 112 ∧ (zChX g (b + (pl + 1)).toNat).toInt = 117 ∧ (zChX g (b + ((pl + 1) + 1)).toNat).toInt = 108 ∧ (zChX g (b + (((pl + 1) + 1) + 1)).toNat).toInt = 108) := by
  have hl : (zWds 3).length = 4 := by decide
  have e0 : pl + ((0 : Nat) : Int) = pl := by omega
  have e1 : pl + ((1 : Nat) : Int) = pl + 1 := by omega
  have e2 : pl + ((2 : Nat) : Int) = (pl + 1) + 1 := by omega
  have e3 : pl + ((3 : Nat) : Int) = ((pl + 1) + 1) + 1 := by omega
  constructor
  · intro h
    have a0 := zLc_pre (zWds 3) pl 0 (by rw [h]; decide)
    have a1 := zLc_pre (zWds 3) pl 1 (by rw [h]; decide)
    have a2 := zLc_pre (zWds 3) pl 2 (by rw [h]; decide)
    have a3 := zLc_pre (zWds 3) pl 3 (by rw [h]; decide)
    rw [e0, zMF_at (by omega)] at a0
    rw [e1, zMF_at (by omega)] at a1
    rw [e2, zMF_at (by omega)] at a2
    rw [e3, zMF_at (by omega)] at a3
    exact ⟨a3.1, by rw [a0.2]; decide, by rw [a1.2]; decide, by rw [a2.2]; decide, by rw [a3.2]; decide⟩
  · rintro ⟨b1, b2, b3, b4, b5⟩
    refine zLc_eq _ _ _ (by omega) (fun j hj => ?_) (Or.inl hl.symm)
    rcases (show j = 0 ∨ j = 1 ∨ j = 2 ∨ j = 3 by omega) with rfl | rfl | rfl | rfl
    · rw [e0, zMF_at (by omega)]; exact ⟨by omega, Int32.toInt_inj.mp (b2.trans (by decide))⟩
    · rw [e1, zMF_at (by omega)]; exact ⟨by omega, Int32.toInt_inj.mp (b3.trans (by decide))⟩
    · rw [e2, zMF_at (by omega)]; exact ⟨by omega, Int32.toInt_inj.mp (b4.trans (by decide))⟩
    · rw [e3, zMF_at (by omega)]; exact ⟨by omega, Int32.toInt_inj.mp (b5.trans (by decide))⟩
theorem zDg_MF {g : Nat → Int64} {b e q : Int} (hq : 0 ≤ q) : zDg (zMF g b) e q ↔ (q < e ∧ 48 ≤ (zChX g (b + q).toNat).toInt ∧ (zChX g (b + q).toNat).toInt ≤ 57) := by
  unfold zDg
  rw [zMF_at hq]
theorem zDv_MF {g : Nat → Int64} {b q : Int} {y : Int32} (hq : 0 ≤ q) (h : y.toInt = (zChX g (b + q).toNat).toInt) : zDv (zMF g b) q = y.toInt - 48 := by
  unfold zDv
  rw [zMF_at hq, h]
/-- a number read from the place of its first digit on, by how many of them are digits -/
theorem zNum_1 {f : Nat → Int32} {e p : Int} (h0 : zDg f e p) (h1 : ¬ zDg f e (p + 1)) : zNe f e p = p + 1 ∧ zNv f p (p + 1) = zDv f p := by
  refine ⟨by unfold zNe; rw [if_pos h0, if_neg h1], ?_⟩
  unfold zNv
  rw [if_neg (by omega), if_pos rfl]
theorem zNum_2 {f : Nat → Int32} {e p : Int} (h0 : zDg f e p) (h1 : zDg f e (p + 1)) (h2 : ¬ zDg f e (p + 2)) : zNe f e p = p + 2 ∧ zNv f p (p + 2) = 10 * zDv f p + zDv f (p + 1) := by
  refine ⟨by unfold zNe; rw [if_pos h0, if_pos h1, if_neg h2], ?_⟩
  unfold zNv
  rw [if_neg (by omega), if_neg (by omega), if_pos rfl]
theorem zNum_3 {f : Nat → Int32} {e p : Int} (h0 : zDg f e p) (h1 : zDg f e (p + 1)) (h2 : zDg f e (p + 2)) : zNe f e p = p + 3 ∧ zNv f p (p + 3) = 10 * (10 * zDv f p + zDv f (p + 1)) + zDv f (p + 2) := by
  refine ⟨by unfold zNe; rw [if_pos h0, if_pos h1, if_pos h2], ?_⟩
  unfold zNv
  rw [if_neg (by omega), if_neg (by omega), if_neg (by omega)]
theorem zNum_0 {f : Nat → Int32} {e p : Int} (h0 : ¬ zDg f e p) : zNe f e p = p := by unfold zNe; rw [if_neg h0]
/-- what the reference's word() came to, by the words alone -/
theorem zItem_M {f : Nat → Int32} {e p te pu w : Int} (h : zFst f e p zBls 10 = -1) (hw : w = p + (zMx f e p zBls 10 : Nat)) (hn : ¬ (zLc f e p (zWds 3) = 4 ∧ pu = 8)) (hp : 0 ≤ p) : (zItem f e p te pu).1 = w := by
  rcases zFst_bls (f := f) (e := e) (p := p) with ⟨-, ⟨h1, h2⟩ | ⟨v, hv, h1, h2, h3⟩⟩ | ⟨v, hv, -, h2, -⟩
  · rw [zItem_none h1]
    show p + _ = w
    rw [hw, h2]
  · have hl := zWds_len v hv
    have hnn : ¬ ((v : Int) = 3 ∧ pu = 8) := fun z => hn ⟨by
      obtain rfl : v = 3 := by omega
      exact (zFst_w hv h1).trans (by decide), z.2⟩
    have hI : zIn f e (p + ((zWds v).length : Int)) te v = (p + ((zWds v).length : Int), p + ((zWds v).length : Int), 0) := zIn_a (zN1_no (fun z => h2 ⟨z.1, Int32.toInt_inj.mp (z.2.trans (by decide))⟩)) (Or.inl (by omega))
    rw [zItem_w (w := (v : Int)) h1 (by omega) hnn (by rw [Int.toNat_natCast]) hI]
    show p + _ = w
    rw [hw, h3]
  · omega
theorem zItem_Mw {f : Nat → Int32} {e p : Int} {w : Int} (h : zFst f e p zBls 10 = w) (h0 : 0 ≤ w) : zFst f e p zWds 10 = w ∧ p + ((zWds w.toNat).length : Int) < e ∧ (f (p + ((zWds w.toNat).length : Int)).toNat).toInt = 32 ∧ ((zBls w.toNat).length : Int) = ((zWds w.toNat).length : Int) + 1 := by
  rcases zFst_bls (f := f) (e := e) (p := p) with ⟨h1, -⟩ | ⟨v, hv, h1, h2, h3, h4⟩
  · omega
  · have e1 : w.toNat = v := by omega
    rw [e1]
    refine ⟨by omega, h3, by rw [h4]; decide, ?_⟩
    rw [zBls_len]
    omega
/-- jacket's outcome is one, and hangs on the letters alone -/
theorem zJac_one {f g : Nat → Int32} {si s he lf cn sz r lf2 cn2 sz2 si' he' r' lf2' cn2' sz2' : Int} (h : zJac f si s he lf cn sz r lf2 cn2 sz2) (h' : zJac g si' s he' lf cn sz r' lf2' cn2' sz2') (h1 : (0 ≤ s ∧ s ≤ 7) → ((he = -1 ∧ he' = -1) ∨ ((0 ≤ he ∧ he < 100) ∧ 0 ≤ he' ∧ he' < 100) ∨ (100 ≤ he ∧ 100 ≤ he' ∧ si = si' ∧ 0 ≤ si ∧ ∀ j : Int, 0 ≤ j → j < si → f j.toNat = g j.toNat))) (ht : 4 ≤ sz ∧ sz ≤ 40) (hu : 0 ≤ cn ∧ cn ≤ 8) : r = r' ∧ lf2 = lf2' ∧ cn2 = cn2' ∧ sz2 = sz2' := by
  unfold zJac at h h'
  by_cases hs : 0 ≤ s ∧ s ≤ 7
  · rcases h1 hs with a | a | ⟨a1, a2, rfl, a3, a4⟩
    · rcases h with b | b | b | ⟨-, b, -⟩ <;> rcases h' with c | c | c | ⟨-, c, -⟩ <;> omega
    · rcases h with b | b | b | ⟨-, b, -⟩ <;> rcases h' with c | c | c | ⟨-, c, -⟩ <;> omega
    · rcases h with b | b | b | ⟨-, -, k, R, T, U, z1, z2⟩
      · omega
      · omega
      · omega
      rcases h' with c | c | c | ⟨-, -, k', R', T', U', y1, y2⟩
      · omega
      · omega
      · omega
      obtain ⟨e1, e2, e3⟩ := zEnd_one a3 ht hu (zEnd_congr a4 a3 ht hu z1) y1
      rcases z2 with ⟨m1, m2⟩ | ⟨m1, m2⟩ <;> rcases y2 with ⟨n1, n2⟩ | ⟨n1, n2⟩
      · omega
      · omega
      · omega
      · have := e3 m1
        omega
  · rcases h with b | b | b | ⟨b, -⟩ <;> rcases h' with c | c | c | ⟨c, -⟩ <;> omega
/-- what a shelf holds, as jacket looks at it -/
def zHc (h : Int) : Int := if h = 1 then 100 else if h = 0 then -1 else 0
/-! what the shelves' calls answer -/
def zH2 (h o : Int) : Int := if h = 1 then 100 + o else if h = 0 then -1 else 0
def zSetR (s he si i : Int) : Int := if s < 0 then -1 else if 7 < s then -1 else if he = -1 then -3 else if he < 100 then -2 else if i < 0 then -5 else if si ≤ i then -5 else 1
def zCopR (s q hs hq ss sq i j n : Int) : Int := if s < 0 then -1 else if 7 < s then -1 else if q < 0 then -1 else if 7 < q then -1 else if 0 ≤ hs ∧ hs < 100 then -2 else if 0 ≤ hq ∧ hq < 100 then -2 else if hs ≠ -1 ∧ hq ≠ -1 ∧ hs ≠ hq then -2 else if hs = -1 then -3 else if hq = -1 then -3 else if n < 0 then -4 else if i < 0 then -5 else if j < 0 then -5 else if ss - n < i then -5 else if sq - n < j then -5 else 1
def zNar (k : Int) (v : Int64) : Int64 := if k = 0 then v.toInt32.toInt8.toInt32.toInt64 else if k = 1 then v.toInt32.toInt16.toInt32.toInt64 else if k = 2 then v.toInt32.toInt64 else v
def zPulR (k a t n : Int) : Int := if k < 0 then -1 else if 6 < k then -1 else if a < 0 then -6 else if 9 < a then -6 else if t < 1 then -6 else if 60 < t then -6 else if 8 ≤ n then -7 else n
def zHe (h o sh : Int) : Int := if h = 0 then -1 else if h = 1 then 100 + o else sh
theorem zRst_S {c c2 gh gs : Nat → Int32} {p : Int} {i x y : Int32} (h : ∀ j : Nat, c j = (if (j : Int) < i.toInt ∧ (gh j).toInt = 2 ∧ p ≤ (gs j).toInt then 0 else gh j)) (h0 : 0 ≤ i.toInt) (hy : y = c i.toNatClampNeg) (hx : x.toInt = i.toInt + 1) (hc : (c2 = c ∧ (y.toInt ≠ 2 ∨ (gs i.toNatClampNeg).toInt < p)) ∨ (c2 = upd c i.toNatClampNeg 0 ∧ y.toInt = 2 ∧ p ≤ (gs i.toNatClampNeg).toInt)) : ∀ j : Nat, c2 j = (if (j : Int) < x.toInt ∧ (gh j).toInt = 2 ∧ p ≤ (gs j).toInt then 0 else gh j) := by
  intro j
  have hi : i.toNatClampNeg = i.toInt.toNat := rfl
  have e1 : c i.toNatClampNeg = gh i.toNatClampNeg := by rw [h, if_neg (by omega)]
  by_cases e9 : j = i.toNatClampNeg
  · subst e9
    rcases hc with ⟨rfl, h3⟩ | ⟨rfl, h3, h4⟩
    · rw [e1, if_neg]
      rintro ⟨-, h5, h6⟩
      rw [hy, e1] at h3
      omega
    · rw [hy, e1] at h3
      rw [if_pos ⟨by omega, h3, h4⟩]
      simp [upd]
  · have e2 : c2 j = c j := by
      rcases hc with ⟨rfl, -⟩ | ⟨rfl, -, -⟩
      · rfl
      · simp only [upd]; rw [if_neg e9]
    rw [e2, h j]
    by_cases h5 : (gh j).toInt = 2 ∧ p ≤ (gs j).toInt
    · by_cases h6 : (j : Int) < i.toInt
      · rw [if_pos ⟨h6, h5⟩, if_pos ⟨by omega, h5⟩]
      · rw [if_neg (fun z => h6 z.1), if_neg (fun z => by have := z.1; omega)]
    · rw [if_neg (fun z => h5 z.2), if_neg (fun z => h5 z.2)]
end
section
/-! the items of a read text, and what they do to the jacket -/
def zV2 (f : Nat → Int32) (e p te w : Int) : Int := (zN1 f e (zN1 f e p (zLo w 0) (zHi w 0 te)).2.1 (zLo w 1) (zHi w 1 te)).2.2
def zV3 (f : Nat → Int32) (e p te w : Int) : Int := (zN1 f e (zN1 f e (zN1 f e p (zLo w 0) (zHi w 0 te)).2.1 (zLo w 1) (zHi w 1 te)).2.1 (zLo w 2) (zHi w 2 te)).2.2
theorem zV2_eq {f : Nat → Int32} {e p te w r q v r2 q2 v2 : Int} (h : zN1 f e p (zLo w 0) (zHi w 0 te) = (r, q, v)) (h2 : zN1 f e q (zLo w 1) (zHi w 1 te) = (r2, q2, v2)) : zV2 f e p te w = v2 := by
  unfold zV2; rw [h]; dsimp only; rw [h2]
theorem zV3_eq {f : Nat → Int32} {e p te w r q v r2 q2 v2 r3 q3 v3 : Int} (h : zN1 f e p (zLo w 0) (zHi w 0 te) = (r, q, v)) (h2 : zN1 f e q (zLo w 1) (zHi w 1 te) = (r2, q2, v2)) (h3 : zN1 f e q2 (zLo w 2) (zHi w 2 te) = (r3, q3, v3)) : zV3 f e p te w = v3 := by
  unfold zV3; rw [h]; dsimp only; rw [h2]; dsimp only; rw [h3]
/-- the word, and behind it the place -/
def zIW (f : Nat → Int32) (e p : Int) : Int := zFst f e p zWds 10
def zIP (f : Nat → Int32) (e p : Int) : Int := p + ((zWds (zIW f e p).toNat).length : Int)
abbrev zIt4 : Type := Int × Int × Int × Int
def zIm (f : Nat → Int32) (e p te : Int) : zIt4 := (zIW f e p, (zIn f e (zIP f e p) te (zIW f e p)).2.2, zV2 f e (zIP f e p) te (zIW f e p), zV3 f e (zIP f e p) te (zIW f e p))
/-- the k-th item of a text -/
def zDI (f : Nat → Int32) (e te pu : Int) (k : Nat) : zIt4 := match zRgo f e te pu k with
  | none => (-1, 0, 0, 0)
  | some (p, t, _) => zIm f e p t
/-- the k-th item of those kept -/
def zDF (fi : Nat → Int32) (k : Nat) : zIt4 := ((fi (4 * k)).toInt, (fi (4 * k + 1)).toInt, (fi (4 * k + 2)).toInt, (fi (4 * k + 3)).toInt)
/-- the item kept at a place -/
def zDS (fi : Nat → Int32) (n : Nat) : zIt4 := ((fi n).toInt, (fi (n + 1)).toInt, (fi (n + 2)).toInt, (fi (n + 3)).toInt)
/-- two items tell the same -/
def zSm (a b : zIt4) : Prop := a.1 = b.1 ∧ a.2.1 = b.2.1 ∧ ((a.1 = 2 ∨ a.1 = 3 ∨ a.1 = 8) → a.2.2.1 = b.2.2.1) ∧ (a.1 = 3 → a.2.2.2 = b.2.2.2)
theorem zSm.rfl {a : zIt4} : zSm a a := ⟨_root_.rfl, _root_.rfl, fun _ => _root_.rfl, fun _ => _root_.rfl⟩
theorem zSm.symm {a b : zIt4} (h : zSm a b) : zSm b a := by
  obtain ⟨h1, h2, h3, h4⟩ := h
  exact ⟨h1.symm, h2.symm, fun z => (h3 (by rw [h1]; exact z)).symm, fun z => (h4 (by rw [h1]; exact z)).symm⟩
theorem zSm.trans {a b c : zIt4} (h : zSm a b) (g : zSm b c) : zSm a c := by
  obtain ⟨h1, h2, h3, h4⟩ := h
  obtain ⟨g1, g2, g3, g4⟩ := g
  exact ⟨h1.trans g1, h2.trans g2, fun z => (h3 z).trans (g3 (by rw [← h1]; exact z)), fun z => (h4 z).trans (g4 (by rw [← h1]; exact z))⟩
def zFold {α : Type} (st : Nat → α → α) (x : α) : Nat → α
  | 0 => x
  | n + 1 => st n (zFold st x n)
theorem zFold_s {α : Type} {st : Nat → α → α} {x : α} {n : Nat} : zFold st x (n + 1) = st n (zFold st x n) := rfl
/-- what an item does: to the teeth that lack, to the slack, to the pulls' kinds, a's, takes, to the costs, to a number -/
def zEl (it : zIt4) (l : Nat → Int32) : Nat → Int32 := if it.1 = 0 then (fun _ => 0) else if it.1 = 1 then upd l it.2.1.toNat 1 else l
def zEs (it : zIt4) (l : Nat → Int32) : Nat → Int32 := if it.1 = 0 then (fun _ => 0) else if it.1 = 2 then upd l it.2.1.toNat (Int32.ofInt it.2.2.1) else l
def zEk (it : zIt4) (n : Int) (l : Nat → Int32) : Nat → Int32 := if it.1 = 3 then upd l n.toNat (Int32.ofInt it.2.1) else l
def zEa (it : zIt4) (n : Int) (l : Nat → Int32) : Nat → Int32 := if it.1 = 3 then upd l n.toNat (Int32.ofInt it.2.2.1) else l
def zEt (it : zIt4) (n : Int) (l : Nat → Int32) : Nat → Int32 := if it.1 = 3 then upd l n.toNat (Int32.ofInt it.2.2.2) else l
def zEc (it : zIt4) (l : Nat → Int32) : Nat → Int32 := if it.1 = 8 then upd l it.2.1.toNat (Int32.ofInt it.2.2.1) else l
def zEnu (k : Int) (it : zIt4) (x : Int) : Int := if it.1 = k then it.2.1 else x
def zEat (it : zIt4) (x : Int) : Int := if it.1 = 9 then it.2.1 else if it.1 = 0 then 0 else x
/-- the pulls' number ahead of the k-th item -/
def zNp (d : Nat → zIt4) (c : Int) : Nat → Int := zFold (fun k x => if (d k).1 = 3 then x + 1 else x) c
theorem zEl_sm {a b : zIt4} (h : zSm a b) {l g : Nat → Int32} (hl : ∀ j : Nat, j < 40 → l j = g j) : ∀ j : Nat, j < 40 → zEl a l j = zEl b g j := by
  intro j hj
  obtain ⟨h1, h2, -, -⟩ := h
  unfold zEl
  rw [← h1, ← h2]
  split
  · rfl
  · split
    · simp only [upd]; split
      · rfl
      · exact hl j hj
    · exact hl j hj
theorem zEs_sm {a b : zIt4} (h : zSm a b) {l g : Nat → Int32} (hl : ∀ j : Nat, j < 40 → l j = g j) : ∀ j : Nat, j < 40 → zEs a l j = zEs b g j := by
  intro j hj
  obtain ⟨h1, h2, h3, -⟩ := h
  unfold zEs
  rw [← h1, ← h2]
  split
  · rfl
  · split
    · rename_i h5
      rw [← h3 (Or.inl h5)]
      simp only [upd]; split
      · rfl
      · exact hl j hj
    · exact hl j hj
theorem zEk_sm {a b : zIt4} (h : zSm a b) {n : Int} {N : Nat} {l g : Nat → Int32} (hl : ∀ j : Nat, j < N → l j = g j) : ∀ j : Nat, j < N → zEk a n l j = zEk b n g j := by
  intro j hj
  obtain ⟨h1, h2, -, -⟩ := h
  unfold zEk
  rw [← h1, ← h2]
  split
  · simp only [upd]; split
    · rfl
    · exact hl j hj
  · exact hl j hj
theorem zEa_sm {a b : zIt4} (h : zSm a b) {n : Int} {N : Nat} {l g : Nat → Int32} (hl : ∀ j : Nat, j < N → l j = g j) : ∀ j : Nat, j < N → zEa a n l j = zEa b n g j := by
  intro j hj
  obtain ⟨h1, -, h3, -⟩ := h
  unfold zEa
  rw [← h1]
  split
  · rename_i h5
    rw [← h3 (Or.inr (Or.inl h5))]
    simp only [upd]; split
    · rfl
    · exact hl j hj
  · exact hl j hj
theorem zEt_sm {a b : zIt4} (h : zSm a b) {n : Int} {N : Nat} {l g : Nat → Int32} (hl : ∀ j : Nat, j < N → l j = g j) : ∀ j : Nat, j < N → zEt a n l j = zEt b n g j := by
  intro j hj
  obtain ⟨h1, -, -, h4⟩ := h
  unfold zEt
  rw [← h1]
  split
  · rename_i h5
    rw [← h4 h5]
    simp only [upd]; split
    · rfl
    · exact hl j hj
  · exact hl j hj
theorem zEc_sm {a b : zIt4} (h : zSm a b) {N : Nat} {l g : Nat → Int32} (hl : ∀ j : Nat, j < N → l j = g j) : ∀ j : Nat, j < N → zEc a l j = zEc b g j := by
  intro j hj
  obtain ⟨h1, h2, h3, -⟩ := h
  unfold zEc
  rw [← h1, ← h2]
  split
  · rename_i h5
    rw [← h3 (Or.inr (Or.inr h5))]
    simp only [upd]; split
    · rfl
    · exact hl j hj
  · exact hl j hj
theorem zEnu_sm {a b : zIt4} (h : zSm a b) (k : Int) {x y : Int} (hx : x = y) : zEnu k a x = zEnu k b y := by
  obtain ⟨h1, h2, -, -⟩ := h
  unfold zEnu
  rw [h1, h2, hx]
theorem zEat_sm {a b : zIt4} (h : zSm a b) {x y : Int} (hx : x = y) : zEat a x = zEat b y := by
  obtain ⟨h1, h2, -, -⟩ := h
  unfold zEat
  rw [h1, h2, hx]
/-- the folds over items that tell the same -/
theorem zFold_fn {A B : Nat → (Nat → Int32) → Nat → Int32} {N n : Nat} (hs : ∀ (k : Nat), k < n → ∀ (l g : Nat → Int32), (∀ j : Nat, j < N → l j = g j) → ∀ j : Nat, j < N → A k l j = B k g j) {l g : Nat → Int32} (hl : ∀ j : Nat, j < N → l j = g j) : ∀ m : Nat, m ≤ n → ∀ j : Nat, j < N → zFold A l m j = zFold B g m j := by
  intro m
  induction m with
  | zero => intro _; exact hl
  | succ m ih =>
    intro hm
    rw [zFold_s, zFold_s]
    exact hs m (by omega) _ _ (ih (by omega))
theorem zFold_nm {A B : Nat → Int → Int} {n : Nat} (hs : ∀ (k : Nat), k < n → ∀ x : Int, A k x = B k x) {x y : Int} (hx : x = y) : ∀ m : Nat, m ≤ n → zFold A x m = zFold B y m := by
  intro m
  induction m with
  | zero => intro _; exact hx
  | succ m ih =>
    intro hm
    rw [zFold_s, zFold_s, ih (by omega)]
    exact hs m (by omega) _
theorem zNp_sm {d g : Nat → zIt4} {n : Nat} (h : ∀ k : Nat, k < n → zSm (d k) (g k)) {c : Int} : ∀ m : Nat, m ≤ n → zNp d c m = zNp g c m := zFold_nm (fun k hk x => by rw [(h k hk).1]) rfl
/-- all that the items do, by name: the teeth that lack, the slack, the pulls (kind, a, takes), the costs, the numbers -/
def zRl (d : Nat → zIt4) (l : Nat → Int32) : Nat → Nat → Int32 := zFold (fun k => zEl (d k)) l
def zRs (d : Nat → zIt4) (l : Nat → Int32) : Nat → Nat → Int32 := zFold (fun k => zEs (d k)) l
def zRk (d : Nat → zIt4) (c : Int) (l : Nat → Int32) : Nat → Nat → Int32 := zFold (fun k => zEk (d k) (zNp d c k)) l
def zRa (d : Nat → zIt4) (c : Int) (l : Nat → Int32) : Nat → Nat → Int32 := zFold (fun k => zEa (d k) (zNp d c k)) l
def zRt (d : Nat → zIt4) (c : Int) (l : Nat → Int32) : Nat → Nat → Int32 := zFold (fun k => zEt (d k) (zNp d c k)) l
def zRc (d : Nat → zIt4) (l : Nat → Int32) : Nat → Nat → Int32 := zFold (fun k => zEc (d k)) l
def zRn (i : Int) (d : Nat → zIt4) (x : Int) : Nat → Int := zFold (fun k => zEnu i (d k)) x
def zRat (d : Nat → zIt4) (x : Int) : Nat → Int := zFold (fun k => zEat (d k)) x
theorem zRl_sm {d g : Nat → zIt4} {n : Nat} (h : ∀ k : Nat, k < n → zSm (d k) (g k)) {l m : Nat → Int32} (hl : ∀ j : Nat, j < 40 → l j = m j) : ∀ j : Nat, j < 40 → zRl d l n j = zRl g m n j := zFold_fn (n := n) (fun k hk _ _ hh => zEl_sm (h k hk) hh) hl n (Nat.le_refl _)
theorem zRs_sm {d g : Nat → zIt4} {n : Nat} (h : ∀ k : Nat, k < n → zSm (d k) (g k)) {l m : Nat → Int32} (hl : ∀ j : Nat, j < 40 → l j = m j) : ∀ j : Nat, j < 40 → zRs d l n j = zRs g m n j := zFold_fn (n := n) (fun k hk _ _ hh => zEs_sm (h k hk) hh) hl n (Nat.le_refl _)
theorem zRk_sm {d g : Nat → zIt4} {n N : Nat} {c : Int} (h : ∀ k : Nat, k < n → zSm (d k) (g k)) {l m : Nat → Int32} (hl : ∀ j : Nat, j < N → l j = m j) : ∀ j : Nat, j < N → zRk d c l n j = zRk g c m n j := zFold_fn (n := n) (fun k hk _ _ hh => by rw [zNp_sm h k (by omega)]; exact zEk_sm (h k hk) hh) hl n (Nat.le_refl _)
theorem zRa_sm {d g : Nat → zIt4} {n N : Nat} {c : Int} (h : ∀ k : Nat, k < n → zSm (d k) (g k)) {l m : Nat → Int32} (hl : ∀ j : Nat, j < N → l j = m j) : ∀ j : Nat, j < N → zRa d c l n j = zRa g c m n j := zFold_fn (n := n) (fun k hk _ _ hh => by rw [zNp_sm h k (by omega)]; exact zEa_sm (h k hk) hh) hl n (Nat.le_refl _)
theorem zRt_sm {d g : Nat → zIt4} {n N : Nat} {c : Int} (h : ∀ k : Nat, k < n → zSm (d k) (g k)) {l m : Nat → Int32} (hl : ∀ j : Nat, j < N → l j = m j) : ∀ j : Nat, j < N → zRt d c l n j = zRt g c m n j := zFold_fn (n := n) (fun k hk _ _ hh => by rw [zNp_sm h k (by omega)]; exact zEt_sm (h k hk) hh) hl n (Nat.le_refl _)
theorem zRc_sm {d g : Nat → zIt4} {n N : Nat} (h : ∀ k : Nat, k < n → zSm (d k) (g k)) {l m : Nat → Int32} (hl : ∀ j : Nat, j < N → l j = m j) : ∀ j : Nat, j < N → zRc d l n j = zRc g m n j := zFold_fn (n := n) (fun k hk _ _ hh => zEc_sm (h k hk) hh) hl n (Nat.le_refl _)
theorem zRn_sm {i : Int} {d g : Nat → zIt4} {n : Nat} (h : ∀ k : Nat, k < n → zSm (d k) (g k)) {x y : Int} (hx : x = y) : zRn i d x n = zRn i g y n := zFold_nm (n := n) (fun k hk _ => zEnu_sm (h k hk) i rfl) hx n (Nat.le_refl _)
theorem zRat_sm {d g : Nat → zIt4} {n : Nat} (h : ∀ k : Nat, k < n → zSm (d k) (g k)) {x y : Int} (hx : x = y) : zRat d x n = zRat g y n := zFold_nm (n := n) (fun k hk _ => zEat_sm (h k hk) rfl) hx n (Nat.le_refl _)
/-- the items of two texts of the same letters -/
theorem zV2_congr {f g : Nat → Int32} {e : Int} (h : ∀ j : Int, 0 ≤ j → j < e → f j.toNat = g j.toNat) {p te w : Int} (hp : 0 ≤ p) (he : p ≤ e) : zV2 f e p te w = zV2 g e p te w := by
  have r1 := zN1_rg (f := g) (e := e) (p := p) (lo := zLo w 0) (hi := zHi w 0 te) hp he
  unfold zV2
  rw [zN1_congr h hp, zN1_congr h (show (0 : Int) ≤ (zN1 g e p (zLo w 0) (zHi w 0 te)).2.1 by omega)]
theorem zV3_congr {f g : Nat → Int32} {e : Int} (h : ∀ j : Int, 0 ≤ j → j < e → f j.toNat = g j.toNat) {p te w : Int} (hp : 0 ≤ p) (he : p ≤ e) : zV3 f e p te w = zV3 g e p te w := by
  have r1 := zN1_rg (f := g) (e := e) (p := p) (lo := zLo w 0) (hi := zHi w 0 te) hp he
  have r2 := zN1_rg (f := g) (e := e) (p := (zN1 g e p (zLo w 0) (zHi w 0 te)).2.1) (lo := zLo w 1) (hi := zHi w 1 te) (by omega) (by omega)
  unfold zV3
  rw [zN1_congr h hp, zN1_congr h (show (0 : Int) ≤ (zN1 g e p (zLo w 0) (zHi w 0 te)).2.1 by omega), zN1_congr h (show (0 : Int) ≤ (zN1 g e (zN1 g e p (zLo w 0) (zHi w 0 te)).2.1 (zLo w 1) (zHi w 1 te)).2.1 by omega)]
theorem zDI_congr {f g : Nat → Int32} {e te pu : Int} (h : ∀ j : Int, 0 ≤ j → j < e → f j.toNat = g j.toNat) (he : 0 ≤ e) (ht : 4 ≤ te ∧ te ≤ 40) (hu : 0 ≤ pu ∧ pu ≤ 8) {k : Nat} {p t u : Int} (h0 : zRgo f e te pu k = some (p, t, u)) (hi : (zItem f e p t u).1 = -1) : zDI f e te pu k = zDI g e te pu k := by
  have h1 := h0
  rw [zRgo_congr h he ht hu] at h1
  have r := zRgo_rg he ht hu k p t u h0
  unfold zDI
  rw [h0, h1]
  show zIm f e p t = zIm g e p t
  have hw : zIW f e p = zIW g e p := zFst_congr h (by omega) 10
  have hq : 0 ≤ zIP f e p ∧ zIP f e p ≤ e := by
    unfold zIP zIW
    rcases zFst_spec (f := f) (e := e) (p := p) (ls := zWds) 10 with ⟨h5, -⟩ | ⟨w, hw5, h5, h6, -⟩
    · exfalso
      rw [zItem_none h5] at hi
      have hi2 : p + (zMx f e p zWds 10 : Int) = -1 := hi
      omega
    · rw [h5, Int.toNat_natCast]
      have := zFst_in hw5 h5
      omega
  unfold zIm
  have hp2 : zIP f e p = zIP g e p := by unfold zIP; rw [hw]
  rw [zIn_congr h hq.1 hq.2, zV2_congr h hq.1 hq.2, zV3_congr h hq.1 hq.2, hw, hp2]
/-- the items kept are those of the text -/
def zKI (f : Nat → Int32) (e te pu : Int) (fi : Nat → Int32) (k : Nat) : Prop := ∃ p t u : Int, zRgo f e te pu k = some (p, t, u) ∧ (zItem f e p t u).1 = -1 ∧ zSm (zDF fi k) (zIm f e p t)
theorem zKI_keep {f : Nat → Int32} {e te pu : Int} {fi fj : Nat → Int32} {k : Nat} (h : zKI f e te pu fi k) (hf : ∀ j : Nat, j < 4 * k + 4 → fj j = fi j) : zKI f e te pu fj k := by
  obtain ⟨p, t, u, h1, h2, h3⟩ := h
  refine ⟨p, t, u, h1, h2, ?_⟩
  unfold zDF at h3 ⊢
  rw [hf (4 * k) (by omega), hf (4 * k + 1) (by omega), hf (4 * k + 2) (by omega), hf (4 * k + 3) (by omega)]
  exact h3
theorem zKI_di {f : Nat → Int32} {e te pu : Int} {fi : Nat → Int32} {k : Nat} (h : zKI f e te pu fi k) : zSm (zDF fi k) (zDI f e te pu k) := by
  obtain ⟨p, t, u, h1, -, h3⟩ := h
  unfold zDI
  rw [h1]
  exact h3
end
section
/-! a pull: by how many of 12 it frees, its step, what comes of it (kind k, its a, hurry h, depth d) -/
def zWb (k a d : Int) : Int := if k = 1 then 8 - d / 4 else if k = 3 then 8 - d / 4 + a / 2 else if k = 2 then 6 - d / 4 + a / 3 else if k = 4 then 8 - d / 6 else if k = 6 then 10 - d / 6 else 6 - d / 4
def zWy (k a h d : Int) : Int := if k = 5 then 12 else max 0 (min 12 (zWb k a d - h / 3))
def zStp (k a : Int) : Int := if k = 2 then 2 + a / 3 else if k = 4 ∨ k = 6 then 2 else if k = 5 then 4 else 1
def zShl (k a d : Int) : Int := max 0 (d - zStp k a)
def zDpr (k a h d : Int) : Int := if k = 5 then d else min 24 (d + (if k = 2 then 1 + a / 3 else 0) + (if 6 ≤ h then 1 else 0))
theorem zWy_rg {k a h d : Int} : 0 ≤ zWy k a h d ∧ zWy k a h d ≤ 12 := by
  unfold zWy
  split <;> omega
/-- told for one of a kind -/
abbrev zIsOf (k w : Int) : Prop := w = 0 ∨ w = k ∨ (w = 1 ∧ k = 3) ∨ (w = 2 ∧ k = 5) ∨ (w = 4 ∧ k = 6)
/-- the weights of a belief, by a pull -/
def zTl (c : Nat → Int64) (i : Int) : Int := (c i.toNat).toInt32.toInt
def zFd (c : Nat → Int64) (k a h : Int) : Nat → Int
  | 0 => 12 * zTl c 0
  | d + 1 => zFd c k a h d + zTl c ((d : Int) + 1) * zWy k a h ((d : Int) + 1)
theorem zFd_s {c : Nat → Int64} {k a h : Int} {d : Nat} : zFd c k a h (d + 1) = zFd c k a h d + zTl c ((d : Int) + 1) * zWy k a h ((d : Int) + 1) := rfl
def zBh (c : Nat → Int64) (k a h to : Int) : Nat → Int
  | 0 => if to = 0 then 12 * zTl c 0 else 0
  | d + 1 => zBh c k a h to d + (if zShl k a ((d : Int) + 1) = to then zTl c ((d : Int) + 1) * zWy k a h ((d : Int) + 1) else 0) + (if zDpr k a h ((d : Int) + 1) = to then zTl c ((d : Int) + 1) * (12 - zWy k a h ((d : Int) + 1)) else 0)
theorem zBh_s {c : Nat → Int64} {k a h to : Int} {d : Nat} : zBh c k a h to (d + 1) = zBh c k a h to d + (if zShl k a ((d : Int) + 1) = to then zTl c ((d : Int) + 1) * zWy k a h ((d : Int) + 1) else 0) + (if zDpr k a h ((d : Int) + 1) = to then zTl c ((d : Int) + 1) * (12 - zWy k a h ((d : Int) + 1)) else 0) := rfl
end
section
/-! the teeth: those that lack, that catch; what comes of them -/
abbrev zLkA (l : Nat → Int32) (n t : Int) : Prop := 0 ≤ t ∧ t < n ∧ (l t.toNat).toInt = 1
abbrev zOp (l : Nat → Int32) (n t : Int) : Prop := zLkA l n t ∧ zLkA l n (t + 1) ∧ zLkA l n (t + 2)
def zHd (l : Nat → Int32) (n : Int) : Prop := ∀ t : Int, 0 ≤ t → t < n → ¬ zOp l n t
abbrev zFr (l : Nat → Int32) (n t : Int) : Prop := (zLkA l n (t - 1) ∧ zLkA l n (t - 2)) ∨ (zLkA l n (t - 1) ∧ zLkA l n (t + 1)) ∨ (zLkA l n (t + 1) ∧ zLkA l n (t + 2))
abbrev zCa (l s : Nat → Int32) (g t : Int) : Prop := (l t.toNat).toInt = 0 ∧ g ≤ (s t.toNat).toInt
theorem zLkA_congr {l m : Nat → Int32} {n t : Int} (hn : n ≤ 40) (h : ∀ j : Nat, j < 40 → l j = m j) : zLkA l n t ↔ zLkA m n t := by
  constructor
  · rintro ⟨a, b, c⟩; exact ⟨a, b, by rw [← h t.toNat (by omega)]; exact c⟩
  · rintro ⟨a, b, c⟩; exact ⟨a, b, by rw [h t.toNat (by omega)]; exact c⟩
theorem zHd_congr {l m : Nat → Int32} {n : Int} (hn : n ≤ 40) (h : ∀ j : Nat, j < 40 → l j = m j) (hd : zHd l n) : zHd m n := by
  intro t h0 h1 ⟨a, b, c⟩
  exact hd t h0 h1 ⟨(zLkA_congr hn h).mpr a, (zLkA_congr hn h).mpr b, (zLkA_congr hn h).mpr c⟩
/-- a lacking tooth more -/
theorem zLkA_up {l : Nat → Int32} {n t u : Int} (h0 : 0 ≤ t) : zLkA (upd l t.toNat 1) n u ↔ (zLkA l n u ∨ (u = t ∧ u < n)) := by
  have h1 : (1 : Int32).toInt = 1 := by decide
  unfold zLkA
  simp only [upd]
  by_cases e : u = t
  · subst e
    rw [if_pos rfl]
    constructor
    · rintro ⟨a, b, -⟩; exact Or.inr ⟨rfl, b⟩
    · intro z
      refine ⟨h0, ?_, h1⟩
      rcases z with z | z
      · exact z.2.1
      · exact z.2
  · constructor
    · rintro ⟨a, b, c⟩
      rw [if_neg (by omega)] at c
      exact Or.inl ⟨a, b, c⟩
    · rintro (⟨a, b, c⟩ | ⟨a, -⟩)
      · exact ⟨a, b, by rw [if_neg (by omega)]; exact c⟩
      · exact absurd a e
theorem zFr_iff {l : Nat → Int32} {n t : Int} (hd : zHd l n) (h0 : 0 ≤ t) (h1 : t < n) (hl : (l t.toNat).toInt ≠ 1) : ¬ zHd (upd l t.toNat 1) n ↔ zFr l n t := by
  constructor
  · intro h
    refine Classical.byContradiction (fun h2 => h (fun u a b z => ?_))
    obtain ⟨z1, z2, z3⟩ := z
    rw [zLkA_up h0] at z1 z2 z3
    have hn : ¬ zLkA l n t := fun q => hl q.2.2
    by_cases e1 : u = t
    · subst e1
      have y2 : zLkA l n (u + 1) := by rcases z2 with z2 | z2; exact z2; omega
      have y3 : zLkA l n (u + 2) := by rcases z3 with z3 | z3; exact z3; omega
      exact h2 (Or.inr (Or.inr ⟨y2, y3⟩))
    · have y1 : zLkA l n u := by rcases z1 with z1 | z1; exact z1; omega
      by_cases e2 : u + 1 = t
      · have y3 : zLkA l n (u + 2) := by rcases z3 with z3 | z3; exact z3; omega
        exact h2 (Or.inr (Or.inl ⟨by rw [show t - 1 = u from by omega]; exact y1, by rw [show t + 1 = u + 2 from by omega]; exact y3⟩))
      · have y2 : zLkA l n (u + 1) := by rcases z2 with z2 | z2; exact z2; omega
        by_cases e3 : u + 2 = t
        · exact h2 (Or.inl ⟨by rw [show t - 1 = u + 1 from by omega]; exact y2, by rw [show t - 2 = u from by omega]; exact y1⟩)
        · have y3 : zLkA l n (u + 2) := by rcases z3 with z3 | z3; exact z3; omega
          exact hd u a b ⟨y1, y2, y3⟩
  · rintro (⟨a, b⟩ | ⟨a, b⟩ | ⟨a, b⟩) h
    · refine h (t - 2) b.1 b.2.1 ⟨(zLkA_up h0).mpr (Or.inl b), (zLkA_up h0).mpr (Or.inl ?_), (zLkA_up h0).mpr (Or.inr ?_)⟩
      · rw [show t - 2 + 1 = t - 1 from by omega]; exact a
      · omega
    · refine h (t - 1) a.1 a.2.1 ⟨(zLkA_up h0).mpr (Or.inl a), (zLkA_up h0).mpr (Or.inr ?_), (zLkA_up h0).mpr (Or.inl ?_)⟩
      · omega
      · rw [show t - 1 + 2 = t + 1 from by omega]; exact b
    · exact h t h0 h1 ⟨(zLkA_up h0).mpr (Or.inr ⟨rfl, h1⟩), (zLkA_up h0).mpr (Or.inl a), (zLkA_up h0).mpr (Or.inl b)⟩
/-- how many lack, how many are frail, how many catch -/
def zCl (l : Nat → Int32) : Nat → Int
  | 0 => 0
  | k + 1 => zCl l k + (l k).toInt
def zCf (l : Nat → Int32) (n : Int) : Nat → Int
  | 0 => 0
  | k + 1 => zCf l n k + (if (l k).toInt ≠ 1 ∧ zFr l n (k : Int) then 1 else 0)
def zCn (l s : Nat → Int32) (g : Int) : Nat → Int
  | 0 => 0
  | k + 1 => zCn l s g k + (if zCa l s g (k : Int) then 1 else 0)
theorem zCl_s {l : Nat → Int32} {k : Nat} : zCl l (k + 1) = zCl l k + (l k).toInt := rfl
theorem zCf_s {l : Nat → Int32} {n : Int} {k : Nat} : zCf l n (k + 1) = zCf l n k + (if (l k).toInt ≠ 1 ∧ zFr l n (k : Int) then 1 else 0) := rfl
theorem zCn_s {l s : Nat → Int32} {g : Int} {k : Nat} : zCn l s g (k + 1) = zCn l s g k + (if zCa l s g (k : Int) then 1 else 0) := rfl
theorem zCn_rg {l s : Nat → Int32} {g : Int} : ∀ k : Nat, 0 ≤ zCn l s g k ∧ zCn l s g k ≤ (k : Int) := by
  intro k
  induction k with
  | zero => exact ⟨Int.le_refl _, Int.le_refl _⟩
  | succ k ih => rw [zCn_s]; split <;> omega
theorem zCn_mono {l s : Nat → Int32} {g : Int} : ∀ (m k : Nat), k ≤ m → zCn l s g k ≤ zCn l s g m := by
  intro m
  induction m with
  | zero => intro k hk; obtain rfl : k = 0 := (by omega); exact Int.le_refl _
  | succ m ih =>
    intro k hk
    rcases Nat.lt_or_ge k (m + 1) with h | h
    · have h1 := ih k (by omega)
      rw [zCn_s]
      split <;> omega
    · obtain rfl : k = m + 1 := (by omega)
      exact Int.le_refl _
/-- the i-th that catches is one -/
theorem zCn_one {l s : Nat → Int32} {g i : Int} {a b : Nat} (ha : zCa l s g (a : Int)) (hb : zCa l s g (b : Int)) (h1 : zCn l s g a = i) (h2 : zCn l s g b = i) : a = b := by
  rcases Nat.lt_trichotomy a b with h | h | h
  · have h3 := zCn_mono (l := l) (s := s) (g := g) b (a + 1) h
    rw [zCn_s, if_pos ha] at h3
    omega
  · exact h
  · have h3 := zCn_mono (l := l) (s := s) (g := g) a (b + 1) h
    rw [zCn_s, if_pos hb] at h3
    omega
/-- what catching() answers: the i-th, how many, or none -/
def zCat (l s : Nat → Int32) (g n i r : Int) : Prop := (∃ t : Nat, (t : Int) < n ∧ zCa l s g (t : Int) ∧ zCn l s g t = i ∧ r = (t : Int)) ∨ ((∀ t : Nat, (t : Int) < n → zCa l s g (t : Int) → zCn l s g t ≠ i) ∧ r = (if i = -1 then zCn l s g n.toNat else -1))
theorem zCat_one {l s : Nat → Int32} {g n i r r2 : Int} (h : zCat l s g n i r) (h2 : zCat l s g n i r2) : r = r2 := by
  rcases h with ⟨t, a1, a2, a3, a4⟩ | ⟨a1, a2⟩ <;> rcases h2 with ⟨u, b1, b2, b3, b4⟩ | ⟨b1, b2⟩
  · rw [a4, b4, zCn_one a2 b2 a3 b3]
  · exact absurd a3 (b1 t a1 a2)
  · exact absurd b3 (a1 u b1 b2)
  · rw [a2, b2]
theorem zCa_congr {l s m u : Nat → Int32} {g : Int} (h : ∀ j : Nat, j < 40 → l j = m j) (h2 : ∀ j : Nat, j < 40 → s j = u j) {t : Nat} (ht : t < 40) : zCa l s g (t : Int) ↔ zCa m u g (t : Int) := by
  show ((l t).toInt = 0 ∧ g ≤ (s t).toInt) ↔ ((m t).toInt = 0 ∧ g ≤ (u t).toInt)
  rw [h t ht, h2 t ht]
theorem zCn_congr {l s m u : Nat → Int32} {g : Int} (h : ∀ j : Nat, j < 40 → l j = m j) (h2 : ∀ j : Nat, j < 40 → s j = u j) : ∀ k : Nat, k ≤ 40 → zCn l s g k = zCn m u g k := by
  intro k
  induction k with
  | zero => intro _; rfl
  | succ k ih =>
    intro hk
    rw [zCn_s, zCn_s, ih (by omega)]
    have e := zCa_congr (g := g) h h2 (t := k) (by omega)
    by_cases c : zCa l s g (k : Int)
    · rw [if_pos c, if_pos (e.mp c)]
    · rw [if_neg c, if_neg (fun z => c (e.mpr z))]
theorem zCat_congr {l s m u : Nat → Int32} {g n i r : Int} (h : ∀ j : Nat, j < 40 → l j = m j) (h2 : ∀ j : Nat, j < 40 → s j = u j) (hn : 0 ≤ n ∧ n ≤ 40) (h0 : zCat l s g n i r) : zCat m u g n i r := by
  rcases h0 with ⟨t, a1, a2, a3, a4⟩ | ⟨a1, a2⟩
  · exact Or.inl ⟨t, a1, (zCa_congr h h2 (by omega)).mp a2, by rw [← zCn_congr h h2 t (by omega)]; exact a3, a4⟩
  · refine Or.inr ⟨fun t b1 b2 => ?_, ?_⟩
    · rw [← zCn_congr h h2 t (by omega)]; exact a1 t b1 ((zCa_congr h h2 (by omega)).mpr b2)
    · rw [a2, zCn_congr h h2 n.toNat (by omega)]
theorem zCl_congr {l m : Nat → Int32} (h : ∀ j : Nat, j < 40 → l j = m j) : ∀ k : Nat, k ≤ 40 → zCl l k = zCl m k := by
  intro k
  induction k with
  | zero => intro _; rfl
  | succ k ih => intro hk; rw [zCl_s, zCl_s, ih (by omega), h k (by omega)]
theorem zFr_congr {l m : Nat → Int32} {n t : Int} (hn : n ≤ 40) (h : ∀ j : Nat, j < 40 → l j = m j) : zFr l n t ↔ zFr m n t := by
  unfold zFr
  rw [zLkA_congr hn h, zLkA_congr (t := t - 2) hn h, zLkA_congr (t := t + 1) hn h, zLkA_congr (t := t + 2) hn h]
theorem zCf_congr {l m : Nat → Int32} {n : Int} (hn : n ≤ 40) (h : ∀ j : Nat, j < 40 → l j = m j) : ∀ k : Nat, k ≤ 40 → zCf l n k = zCf m n k := by
  intro k
  induction k with
  | zero => intro _; rfl
  | succ k ih =>
    intro hk
    rw [zCf_s, zCf_s, ih (by omega), h k (by omega)]
    have e := zFr_congr (t := (k : Int)) hn h
    by_cases c : zFr l n (k : Int)
    · have c2 := e.mp c
      by_cases d : (m k).toInt ≠ 1
      · rw [if_pos ⟨d, c⟩, if_pos ⟨d, c2⟩]
      · rw [if_neg (fun z => d z.1), if_neg (fun z => d z.1)]
    · rw [if_neg (fun z => c z.2), if_neg (fun z => c (e.mpr z.2))]
/-- the most that may lack besides, by how many lack just ahead: 'v' where it can't be so -/
def zSp (v : Int) (l : Nat → Int32) : Nat → Int × Int × Int
  | 0 => (0, v, v)
  | k + 1 => (if (l k).toInt = 1 then v else max (zSp v l k).1 (max (zSp v l k).2.1 (zSp v l k).2.2), (zSp v l k).1 + (1 - (l k).toInt), (zSp v l k).2.1 + (1 - (l k).toInt))
theorem zSp_s {v : Int} {l : Nat → Int32} {k : Nat} : zSp v l (k + 1) = (if (l k).toInt = 1 then v else max (zSp v l k).1 (max (zSp v l k).2.1 (zSp v l k).2.2), (zSp v l k).1 + (1 - (l k).toInt), (zSp v l k).2.1 + (1 - (l k).toInt)) := rfl
abbrev zSpE (v w : Int) (k : Nat) (a b : Int) : Prop := (a = b ∧ 0 ≤ a) ∨ (a ≤ v + (k : Int) ∧ b ≤ w + (k : Int))
theorem zSp_eq {v w : Int} {l : Nat → Int32} (hl : ∀ j : Nat, 0 ≤ (l j).toInt ∧ (l j).toInt ≤ 1) (hv : v ≤ -41) (hw : w ≤ -41) : ∀ k : Nat, k ≤ 40 → zSpE v w k (zSp v l k).1 (zSp w l k).1 ∧ zSpE v w k (zSp v l k).2.1 (zSp w l k).2.1 ∧ zSpE v w k (zSp v l k).2.2 (zSp w l k).2.2 := by
  intro k
  induction k with
  | zero => intro _; exact ⟨Or.inl ⟨rfl, Int.le_refl _⟩, Or.inr ⟨by show v ≤ v + ((0 : Nat) : Int); omega, by show w ≤ w + ((0 : Nat) : Int); omega⟩, Or.inr ⟨by show v ≤ v + ((0 : Nat) : Int); omega, by show w ≤ w + ((0 : Nat) : Int); omega⟩⟩
  | succ k ih =>
    intro hk
    obtain ⟨h1, h2, h3⟩ := ih (by omega)
    have h4 := hl k
    rw [zSp_s, zSp_s]
    dsimp only
    generalize (zSp v l k).1 = a1 at *
    generalize (zSp v l k).2.1 = a2 at *
    generalize (zSp v l k).2.2 = a3 at *
    generalize (zSp w l k).1 = b1 at *
    generalize (zSp w l k).2.1 = b2 at *
    generalize (zSp w l k).2.2 = b3 at *
    generalize (l k).toInt = x at *
    unfold zSpE at *
    refine ⟨?_, by omega, by omega⟩
    by_cases e : x = 1
    · rw [if_pos e, if_pos e]; omega
    · rw [if_neg e, if_neg e]; omega
/-- where no three lack, one of the three ways goes on -/
theorem zSp_on {v : Int} {l : Nat → Int32} {n : Int} (hl : ∀ j : Nat, 0 ≤ (l j).toInt ∧ (l j).toInt ≤ 1) (hd : zHd l n) : ∀ k : Nat, (k : Int) ≤ n → 0 ≤ (zSp v l k).1 ∨ (1 ≤ k ∧ (l (k - 1)).toInt = 1 ∧ 0 ≤ (zSp v l k).2.1) ∨ (2 ≤ k ∧ (l (k - 1)).toInt = 1 ∧ (l (k - 2)).toInt = 1 ∧ 0 ≤ (zSp v l k).2.2) := by
  intro k
  induction k with
  | zero => intro _; exact Or.inl (Int.le_refl _)
  | succ k ih =>
    intro hk
    have h4 := hl k
    rw [zSp_s]
    dsimp only
    by_cases e : (l k).toInt = 1
    · rcases ih (by omega) with h | ⟨h, h5, h6⟩ | ⟨h, h5, h6, h7⟩
      · exact Or.inr (Or.inl ⟨by omega, e, by omega⟩)
      · exact Or.inr (Or.inr ⟨by omega, e, by rw [show k + 1 - 2 = k - 1 from by omega]; exact h5, by omega⟩)
      · exfalso
        refine hd ((k : Int) - 2) (by omega) (by omega) ⟨⟨by omega, by omega, ?_⟩, ⟨by omega, by omega, ?_⟩, by omega, by omega, ?_⟩
        · rw [show ((k : Int) - 2).toNat = k - 2 from by omega]; exact h6
        · rw [show ((k : Int) - 2 + 1).toNat = k - 1 from by omega]; exact h5
        · rw [show ((k : Int) - 2 + 2).toNat = k from by omega]; exact e
    · rw [if_neg e]
      rcases ih (by omega) with h | ⟨h, h5, h6⟩ | ⟨h, h5, h6, h7⟩ <;> exact Or.inl (by omega)
def zMx3 (a : Int × Int × Int) : Int := max a.1 (max a.2.1 a.2.2)
theorem zSp_max {v w : Int} {l : Nat → Int32} {n : Int} {k : Nat} (hl : ∀ j : Nat, 0 ≤ (l j).toInt ∧ (l j).toInt ≤ 1) (hd : zHd l n) (hv : v ≤ -41) (hw : w ≤ -41) (hk : k ≤ 40) (hn : (k : Int) ≤ n) : zMx3 (zSp v l k) = zMx3 (zSp w l k) := by
  obtain ⟨h1, h2, h3⟩ := zSp_eq hl hv hw k hk
  have h4 := zSp_on (v := v) hl hd k hn
  unfold zMx3
  unfold zSpE at h1 h2 h3
  rcases h4 with h | ⟨-, -, h⟩ | ⟨-, -, -, h⟩ <;> omega
theorem zSp_congr {v : Int} {l m : Nat → Int32} (h : ∀ j : Nat, j < 40 → l j = m j) : ∀ k : Nat, k ≤ 40 → zSp v l k = zSp v m k := by
  intro k
  induction k with
  | zero => intro _; rfl
  | succ k ih => intro hk; rw [zSp_s, zSp_s, ih (by omega), h k (by omega)]
/-- the stitches, from the first tooth on: how many, from where on the next may be -/
def zSg (l s : Nat → Int32) (g n : Int) : Nat → Int × Int
  | 0 => (0, 0)
  | k + 1 => if (zSg l s g n k).2 ≤ (k : Int) ∧ zCa l s g (k : Int) then ((zSg l s g n k).1 + 1, min ((k : Int) + 2) (n - 1) + 3) else zSg l s g n k
theorem zSg_s {l s : Nat → Int32} {g n : Int} {k : Nat} : zSg l s g n (k + 1) = (if (zSg l s g n k).2 ≤ (k : Int) ∧ zCa l s g (k : Int) then ((zSg l s g n k).1 + 1, min ((k : Int) + 2) (n - 1) + 3) else zSg l s g n k) := rfl
abbrev zSgA (l s : Nat → Int32) (g n : Int) (k : Nat) : Prop := (zSg l s g n k).2 ≤ (k : Int) ∧ zCa l s g (k : Int)
def zSti (l s : Nat → Int32) (g n i r : Int) : Prop := (∃ t : Nat, (t : Int) < n ∧ zSgA l s g n t ∧ (zSg l s g n t).1 = i ∧ r = min ((t : Int) + 2) (n - 1)) ∨ ((∀ t : Nat, (t : Int) < n → zSgA l s g n t → (zSg l s g n t).1 ≠ i) ∧ r = (if i = -1 then (zSg l s g n n.toNat).1 else -1))
theorem zSg_mono {l s : Nat → Int32} {g n : Int} : ∀ (m k : Nat), k ≤ m → (zSg l s g n k).1 ≤ (zSg l s g n m).1 := by
  intro m
  induction m with
  | zero => intro k hk; obtain rfl : k = 0 := (by omega); exact Int.le_refl _
  | succ m ih =>
    intro k hk
    rcases Nat.lt_or_ge k (m + 1) with h | h
    · have h1 := ih k (by omega)
      rw [zSg_s]
      split
      · show _ ≤ (zSg l s g n m).1 + 1; omega
      · exact h1
    · obtain rfl : k = m + 1 := (by omega)
      exact Int.le_refl _
theorem zSti_one {l s : Nat → Int32} {g n i r r2 : Int} (h : zSti l s g n i r) (h2 : zSti l s g n i r2) : r = r2 := by
  have key : ∀ a b : Nat, zSgA l s g n a → (zSg l s g n a).1 = i → (zSg l s g n b).1 = i → ¬ a < b := by
    intro a b ha h1 h2 hab
    have h3 := zSg_mono (l := l) (s := s) (g := g) (n := n) b (a + 1) hab
    rw [zSg_s, if_pos ha] at h3
    have h4 : (zSg l s g n a).1 + 1 ≤ (zSg l s g n b).1 := h3
    omega
  rcases h with ⟨t, a1, a2, a3, a4⟩ | ⟨a1, a2⟩ <;> rcases h2 with ⟨u, b1, b2, b3, b4⟩ | ⟨b1, b2⟩
  · have e : t = u := by
      have k1 := key t u a2 a3 b3
      have k2 := key u t b2 b3 a3
      omega
    rw [a4, b4, e]
  · exact absurd a3 (b1 t a1 a2)
  · exact absurd b3 (a1 u b1 b2)
  · rw [a2, b2]
theorem zSg_congr {l s m u : Nat → Int32} {g n : Int} (h : ∀ j : Nat, j < 40 → l j = m j) (h2 : ∀ j : Nat, j < 40 → s j = u j) : ∀ k : Nat, k ≤ 40 → zSg l s g n k = zSg m u g n k := by
  intro k
  induction k with
  | zero => intro _; rfl
  | succ k ih =>
    intro hk
    rw [zSg_s, zSg_s, ih (by omega)]
    have e := zCa_congr (g := g) h h2 (t := k) (by omega)
    by_cases c : (zSg m u g n k).2 ≤ (k : Int) ∧ zCa l s g (k : Int)
    · rw [if_pos c, if_pos ⟨c.1, e.mp c.2⟩]
    · rw [if_neg c, if_neg (fun z => c ⟨z.1, e.mpr z.2⟩)]
theorem zSti_congr {l s m u : Nat → Int32} {g n i r : Int} (h : ∀ j : Nat, j < 40 → l j = m j) (h2 : ∀ j : Nat, j < 40 → s j = u j) (hn : 0 ≤ n ∧ n ≤ 40) (h0 : zSti l s g n i r) : zSti m u g n i r := by
  have q : ∀ t : Nat, (t : Int) < n → (zSgA l s g n t ↔ zSgA m u g n t) := fun t ht => by
    unfold zSgA
    rw [zSg_congr h h2 t (by omega), zCa_congr h h2 (by omega)]
  rcases h0 with ⟨t, a1, a2, a3, a4⟩ | ⟨a1, a2⟩
  · exact Or.inl ⟨t, a1, (q t a1).mp a2, by rw [← zSg_congr h h2 t (by omega)]; exact a3, a4⟩
  · refine Or.inr ⟨fun t b1 b2 => ?_, ?_⟩
    · rw [← zSg_congr h h2 t (by omega)]; exact a1 t b1 ((q t b1).mpr b2)
    · rw [a2, zSg_congr h h2 n.toNat (by omega)]
/-- the slack that a stitch takes: what lies from 'a' on, k teeth -/
def zTk (s : Nat → Int32) (n a : Int) : Nat → Int
  | 0 => 0
  | k + 1 => zTk s n a k + (if 0 ≤ a + (k : Int) ∧ a + (k : Int) < n then (s (a + (k : Int)).toNat).toInt else 0)
theorem zTk_s {s : Nat → Int32} {n a : Int} {k : Nat} : zTk s n a (k + 1) = zTk s n a k + (if 0 ≤ a + (k : Int) ∧ a + (k : Int) < n then (s (a + (k : Int)).toNat).toInt else 0) := rfl
theorem zTk_congr {s u : Nat → Int32} {n a : Int} (hn : n ≤ 40) (h : ∀ j : Nat, j < 40 → s j = u j) : ∀ k : Nat, zTk s n a k = zTk u n a k := by
  intro k
  induction k with
  | zero => rfl
  | succ k ih =>
    rw [zTk_s, zTk_s, ih]
    by_cases c : 0 ≤ a + (k : Int) ∧ a + (k : Int) < n
    · rw [if_pos c, if_pos c, h _ (by omega)]
    · rw [if_neg c, if_neg c]
end
section
/-! told jackets, all that they tell -/
theorem zNp_s {d : Nat → zIt4} {c : Int} {n : Nat} : zNp d c (n + 1) = (if (d n).1 = 3 then zNp d c n + 1 else zNp d c n) := rfl
theorem zNp_CP {fi : Nat → Int32} {c : Int} : ∀ n : Nat, zNp (zDF fi) c n = c + zCP fi n := by
  intro n
  induction n with
  | zero => show c = c + 0; omega
  | succ n ih =>
    rw [zNp_s, zCP_s, ih]
    show (if (fi (4 * n)).toInt = 3 then _ else _) = _
    split <;> omega
theorem zKI_dj {f g : Nat → Int32} {e te pu : Int} {fi : Nat → Int32} {k : Nat} (h : ∀ j : Int, 0 ≤ j → j < e → f j.toNat = g j.toNat) (he : 0 ≤ e) (ht : 4 ≤ te ∧ te ≤ 40) (hu : 0 ≤ pu ∧ pu ≤ 8) (hk : zKI f e te pu fi k) : zSm (zDF fi k) (zDI g e te pu k) := by
  have h1 := zKI_di hk
  obtain ⟨p, t, u, h2, h3, -⟩ := hk
  rw [zDI_congr h he ht hu h2 h3] at h1
  exact h1
theorem zDI_at {f : Nat → Int32} {e te pu : Int} {k : Nat} {p t u : Int} (h : zRgo f e te pu k = some (p, t, u)) : zDI f e te pu k = zIm f e p t := by
  unfold zDI
  rw [h]
theorem zIm_a {f : Nat → Int32} {e p te w p0 r q v : Int} (hW : zIW f e p = w) (hP : zIP f e p = p0) (hI : zIn f e p0 te w = (r, q, v)) : (zIm f e p te).1 = w ∧ (zIm f e p te).2.1 = v := by
  refine ⟨hW, ?_⟩
  show (zIn f e (zIP f e p) te (zIW f e p)).2.2 = v
  rw [hP, hW, hI]
theorem zIm_b {f : Nat → Int32} {e p te w p0 r q v r2 q2 v2 : Int} (hW : zIW f e p = w) (hP : zIP f e p = p0) (h : zN1 f e p0 (zLo w 0) (zHi w 0 te) = (r, q, v)) (h2 : zN1 f e q (zLo w 1) (zHi w 1 te) = (r2, q2, v2)) : (zIm f e p te).2.2.1 = v2 := by
  show zV2 f e (zIP f e p) te (zIW f e p) = v2
  rw [hP, hW]
  exact zV2_eq h h2
theorem zIm_c {f : Nat → Int32} {e p te w p0 r q v r2 q2 v2 r3 q3 v3 : Int} (hW : zIW f e p = w) (hP : zIP f e p = p0) (h : zN1 f e p0 (zLo w 0) (zHi w 0 te) = (r, q, v)) (h2 : zN1 f e q (zLo w 1) (zHi w 1 te) = (r2, q2, v2)) (h3 : zN1 f e q2 (zLo w 2) (zHi w 2 te) = (r3, q3, v3)) : (zIm f e p te).2.2.2 = v3 := by
  show zV3 f e (zIP f e p) te (zIW f e p) = v3
  rw [hP, hW]
  exact zV3_eq h h2 h3
/-- what may be asked for -/
def zAsk (w v te : Int) : Prop := (0 ≤ w ∧ w ≤ 7) ∧ (if w = 3 then 1 else 0) ≤ v ∧ v ≤ (if w = 0 then 24 else if w = 1 then 300 else if w = 2 then 9 else if w = 3 then 9 else if w = 7 then te else 99)
end
section
/-! more of the teeth -/
theorem zSp_bd {v : Int} {l : Nat → Int32} (hl : ∀ j : Nat, 0 ≤ (l j).toInt ∧ (l j).toInt ≤ 1) (hv : v ≤ 0) : ∀ k : Nat, (v ≤ (zSp v l k).1 ∧ (zSp v l k).1 ≤ (k : Int)) ∧ (v ≤ (zSp v l k).2.1 ∧ (zSp v l k).2.1 ≤ (k : Int)) ∧ v ≤ (zSp v l k).2.2 ∧ (zSp v l k).2.2 ≤ (k : Int) := by
  intro k
  induction k with
  | zero => exact ⟨⟨hv, Int.le_refl _⟩, ⟨Int.le_refl _, hv⟩, Int.le_refl _, hv⟩
  | succ k ih =>
    have h4 := hl k
    rw [zSp_s]
    dsimp only
    refine ⟨?_, by omega, by omega⟩
    split <;> omega
theorem zSg_hold {l s : Nat → Int32} {g n : Int} {a : Nat} : ∀ d : Nat, (∀ k : Nat, a ≤ k → k < a + d → ((k : Nat) : Int) < (zSg l s g n a).2) → zSg l s g n (a + d) = zSg l s g n a := by
  intro d
  induction d with
  | zero => intro _; rfl
  | succ d ih =>
    intro h
    have h1 := ih (fun k h1 h2 => h k h1 (by omega))
    rw [show a + (d + 1) = (a + d) + 1 from by omega, zSg_s, h1, if_neg (fun z => by have h2 := h (a + d) (by omega) (by omega); have z1 := z.1; omega)]
/-- behind a stitch: nothing for four teeth -/
theorem zSg_hop {l s : Nat → Int32} {g n : Int} {t : Nat} (ha : zSgA l s g n t) (hn : (t : Int) < n) : zSg l s g n (min ((t : Int) + 5) n).toNat = ((zSg l s g n t).1 + 1, min ((t : Int) + 2) (n - 1) + 3) ∧ ∀ u : Nat, t < u → (u : Int) < min ((t : Int) + 5) n → ¬ zSgA l s g n u := by
  have h1 : zSg l s g n (t + 1) = ((zSg l s g n t).1 + 1, min ((t : Int) + 2) (n - 1) + 3) := by rw [zSg_s, if_pos ha]
  have h2 : ∀ d : Nat, ((t + 1 + d : Nat) : Int) ≤ min ((t : Int) + 5) n → zSg l s g n (t + 1 + d) = zSg l s g n (t + 1) := fun d hd => zSg_hold d (fun k k1 k2 => by rw [h1]; dsimp only; omega)
  refine ⟨?_, fun u u1 u2 z => ?_⟩
  · have e : (min ((t : Int) + 5) n).toNat = t + 1 + ((min ((t : Int) + 5) n).toNat - (t + 1)) := by omega
    rw [e, h2 _ (by omega), h1]
  · have e : u = t + 1 + (u - (t + 1)) := by omega
    have z1 := z.1
    rw [e, h2 _ (by omega), h1] at z1
    dsimp only at z1
    omega
/-- what is asked for of an i below -1 -/
theorem zCat_low {l s : Nat → Int32} {g n i q : Int} (h : zCat l s g n i q) (hi : i < -1) : q = -1 := by
  rcases h with ⟨t, -, -, h3, -⟩ | ⟨-, h2⟩
  · have := (zCn_rg (l := l) (s := s) (g := g) t).1
    omega
  · rw [h2, if_neg (by omega)]
theorem zSg_nn {l s : Nat → Int32} {g n : Int} : ∀ k : Nat, 0 ≤ (zSg l s g n k).1 := by
  intro k
  induction k with
  | zero => exact Int.le_refl _
  | succ k ih =>
    rw [zSg_s]
    split
    · show 0 ≤ (zSg l s g n k).1 + 1; omega
    · exact ih
theorem zSti_low {l s : Nat → Int32} {g n i q : Int} (h : zSti l s g n i q) (hi : i < -1) : q = -1 := by
  rcases h with ⟨t, -, -, h3, -⟩ | ⟨-, h2⟩
  · have := zSg_nn (l := l) (s := s) (g := g) (n := n) t
    omega
  · rw [h2, if_neg (by omega)]
end
