theorem hi_X8_judge_8 : ∀ w ∈ u_ws RX8 TX8 38, w ∈ wsX8_judge := fun w h => (gl_X8_judge_X80 w h).1
set_option maxHeartbeats 4000000 in
set_option maxRecDepth 100000 in
theorem c_M_judge (l : Launch) (D : va_G) (cI cJ cZ cP cS : ClassId) (po : zPool) (m0 mrf mki mpa mta mla msl mco mhe mso msi msh mce mca mwo mnu mte mwa mke mma mth mtr : Nat) (npu nte nat_ nde nto nse nhu nga nsd nfa nba npl nen nnu nwr nra nik : Int32) (grf ghe gsi gki gpa gta : Nat → Int32) (gce : Nat → Int64) (s_ n : Int32) (hy0 : 0 ≤ npu.toInt) (hy1 : npu.toInt ≤ 8) (hy2 : 4 ≤ nte.toInt) (hy3 : nte.toInt ≤ 40) (hy4 : 0 ≤ nat_.toInt) (hy5 : nat_.toInt ≤ 40) (hy6 : 0 ≤ nde.toInt) (hy7 : nde.toInt ≤ 24) (hy8 : 0 ≤ nhu.toInt) (hy9 : nhu.toInt ≤ 9) (hy10 : 0 ≤ nra.toInt) (hy11 : nra.toInt ≤ 2000) (hy12 : 0 ≤ nik.toInt) (hy13 : nik.toInt ≤ 1) (hp_ghe : zRg ghe (0) 2) (hp_gsi : zRg gsi (0) 160) (hp_gki : zRg gki (0) 6) (hp_gpa : zRg gpa (0) 9) (hp_gta : zRg gta (0) 60) (hpz : Nat) : Met l yX8_judge wsX8_judge ({ frames := 2, cells := 0, slots := 0, locals := 45 }) (va_Pc [.ref m0, .int s_, .int n] (zW D (zKT cI cJ cZ cP cS) po [(zMO m0 npu nte nat_ nde nto nse nhu nga nsd nfa mrf mki mpa mta mla msl mco mhe mso msi msh mce mca mwo mnu mte nba npl nen nnu nwr mwa mke mma mth mtr nra nik), (mrf, .inl (cI, 8, .inl grf)), (mhe, .inl (cI, 8, .inl ghe)), (msi, .inl (cI, 8, .inl gsi)), (mce, .inl (cJ, 1280, .inr (.inl gce))), (mki, .inl (cI, 8, .inl gki)), (mpa, .inl (cI, 8, .inl gpa)), (mta, .inl (cI, 8, .inl gta))] hpz)) (va_Qi (fun (r : Int32) (grf2 : (Nat → Int32)) => True) (zB D [(zMO m0 npu nte nat_ nde nto nse nhu nga nsd nfa mrf mki mpa mta mla msl mco mhe mso msi msh mce mca mwo mnu mte nba npl nen nnu nwr mwa mke mma mth mtr nra nik), (mrf, .inl (cI, 8, .inl grf)), (mhe, .inl (cI, 8, .inl ghe)), (msi, .inl (cI, 8, .inl gsi)), (mce, .inl (cJ, 1280, .inr (.inl gce))), (mki, .inl (cI, 8, .inl gki)), (mpa, .inl (cI, 8, .inl gpa)), (mta, .inl (cI, 8, .inl gta))] hpz (fun (grf2 : Nat → Int32) => [(zMO m0 npu nte nat_ nde nto nse nhu nga nsd nfa mrf mki mpa mta mla msl mco mhe mso msi msh mce mca mwo mnu mte nba npl nen nnu nwr mwa mke mma mth mtr nra nik), (mrf, .inl (cI, 8, .inl grf2)), (mhe, .inl (cI, 8, .inl ghe)), (msi, .inl (cI, 8, .inl gsi)), (mce, .inl (cJ, 1280, .inr (.inl gce))), (mki, .inl (cI, 8, .inl gki)), (mpa, .inl (cI, 8, .inl gpa)), (mta, .inl (cI, 8, .inl gta))])) (va_A [(zMO m0 npu nte nat_ nde nto nse nhu nga nsd nfa mrf mki mpa mta mla msl mco mhe mso msi msh mce mca mwo mnu mte nba npl nen nnu nwr mwa mke mma mth mtr nra nik), (mrf, .inl (cI, 8, .inl grf)), (mhe, .inl (cI, 8, .inl ghe)), (msi, .inl (cI, 8, .inl gsi)), (mce, .inl (cJ, 1280, .inr (.inl gce))), (mki, .inl (cI, 8, .inl gki)), (mpa, .inl (cI, 8, .inl gpa)), (mta, .inl (cI, 8, .inl gta))] hpz)) 0 0 (va_A [(zMO m0 npu nte nat_ nde nto nse nhu nga nsd nfa mrf mki mpa mta mla msl mco mhe mso msi msh mce mca mwo mnu mte nba npl nen nnu nwr mwa mke mma mth mtr nra nik), (mrf, .inl (cI, 8, .inl grf)), (mhe, .inl (cI, 8, .inl ghe)), (msi, .inl (cI, 8, .inl gsi)), (mce, .inl (cJ, 1280, .inr (.inl gce))), (mki, .inl (cI, 8, .inl gki)), (mpa, .inl (cI, 8, .inl gpa)), (mta, .inl (cI, 8, .inl gta))] hpz) := by
  refine Met.ofW (cc := cX8_judge) (maxL := 8) (ret := (some .int)) (by decide) rfl ?_
  intro p e s m args below meth c s₁ B hml hv
  obtain ⟨rfl, hsz, hP, hK, hD0, hN, hZ⟩ := hv
  have hx := B.exec
  have hb := B.bytes
  have hr := B.returns
  have hts := atoms_spec (ws := wsX8_judge) B.pre
  have hown : s.vm.findClass RX8 = some m.cls := findClass_of_methodNamed B.named
  have hlocks := B.notSynchronized
  subst hsz
  have hD := hD0.self (sz := s.heap.size)
  have hA := zA_of hD
  have hl := lv_entry ([.ref m0, .int s_, .int n]) (n := 8) (Nat.le_of_ble_eq_true rfl)
  rw [lg_entry_eq]
  generalize (lg_sl ([.ref m0, .int s_, .int n]) ++ List.replicate (8 - (lg_sl ([.ref m0, .int s_, .int n])).length) Slot.unset).toArray = ls at hl ⊢
  replace hl : lv_has ls 8 [(0, .ref m0), (1, .int s_), (2, .int n)] := hl
  refine zw_begin hP hD (fun H locs hP1 hS => ?_)
  clear hP
  have hP := hP1
  clear hP1
  refine zcut (T := fun K => ∀ (H : Heap) (locs : List Loc) (ls : Array Slot) (hP : va_P D vwCl [(zMO m0 npu nte nat_ nde nto nse nhu nga nsd nfa mrf mki mpa mta mla msl mco mhe mso msi msh mce mca mwo mnu mte nba npl nen nnu nwr mwa mke mma mth mtr nra nik), (mrf, .inl (cI, 8, .inl grf)), (mhe, .inl (cI, 8, .inl ghe)), (msi, .inl (cI, 8, .inl gsi)), (mce, .inl (cJ, 1280, .inr (.inl gce))), (mki, .inl (cI, 8, .inl gki)), (mpa, .inl (cI, 8, .inl gpa)), (mta, .inl (cI, 8, .inl gta))] H) (hD : va_D (va_A [(zMO m0 npu nte nat_ nde nto nse nhu nga nsd nfa mrf mki mpa mta mla msl mco mhe mso msi msh mce mca mwo mnu mte nba npl nen nnu nwr mwa mke mma mth mtr nra nik), (mrf, .inl (cI, 8, .inl grf)), (mhe, .inl (cI, 8, .inl ghe)), (msi, .inl (cI, 8, .inl gsi)), (mce, .inl (cJ, 1280, .inr (.inl gce))), (mki, .inl (cI, 8, .inl gki)), (mpa, .inl (cI, 8, .inl gpa)), (mta, .inl (cI, 8, .inl gta))] s.heap.size) [(zMO m0 npu nte nat_ nde nto nse nhu nga nsd nfa mrf mki mpa mta mla msl mco mhe mso msi msh mce mca mwo mnu mte nba npl nen nnu nwr mwa mke mma mth mtr nra nik), (mrf, .inl (cI, 8, .inl grf)), (mhe, .inl (cI, 8, .inl ghe)), (msi, .inl (cI, 8, .inl gsi)), (mce, .inl (cJ, 1280, .inr (.inl gce))), (mki, .inl (cI, 8, .inl gki)), (mpa, .inl (cI, 8, .inl gpa)), (mta, .inl (cI, 8, .inl gta))]) (hS : va_S (va_A [(zMO m0 npu nte nat_ nde nto nse nhu nga nsd nfa mrf mki mpa mta mla msl mco mhe mso msi msh mce mca mwo mnu mte nba npl nen nnu nwr mwa mke mma mth mtr nra nik), (mrf, .inl (cI, 8, .inl grf)), (mhe, .inl (cI, 8, .inl ghe)), (msi, .inl (cI, 8, .inl gsi)), (mce, .inl (cJ, 1280, .inr (.inl gce))), (mki, .inl (cI, 8, .inl gki)), (mpa, .inl (cI, 8, .inl gpa)), (mta, .inl (cI, 8, .inl gta))] s.heap.size) s.heap H locs) (hl : lv_has ls 8 [(0, .ref m0), (1, .int s_), (2, .int n), (4, .int nde), (5, .int nse)]) (hf69_0 : (0 ≤ s_.toInt ∧ s_.toInt ≤ 7) ∧ 0 ≤ n.toInt ∧ n.toInt ≤ 20), K H locs ls) (pc := 69) ?_ (fun hcut69 => ?_)
  · intro H locs ls hP hD hS hl hf69_0
    refine lv_iconst (v := 0) hx hb dX8_judge_69 (by decide) ?_
    refine lv_istore (lv' := [(6, .int 0), (0, .ref m0), (1, .int s_), (2, .int n), (4, .int nde), (5, .int nse)]) hx hb dX8_judge_70 hl (by decide) rfl (fun ls hl => ?_)
    obtain ⟨i_72, hi_72⟩ : ∃ i : Int32, i = 0 := ⟨_, rfl⟩
    replace hl : lv_has ls 8 [(6, .int i_72), (0, .ref m0), (1, .int s_), (2, .int n), (4, .int nde), (5, .int nse)] := by rw [hi_72]; exact lv_sub hl [0, 1, 2, 3, 4, 5] rfl
    have h1i_72 : i_72.toInt = 0 := by rw [hi_72]; decide
    obtain ⟨nfu, hni_72⟩ : ∃ nq9 : Nat, n.toInt ≤ i_72.toInt + (nq9 : Int) := ⟨((n.toInt : Int) - 0).toNat, by omega⟩
    have hloi_72 : 0 ≤ i_72.toInt := by omega
    obtain ⟨v_1, hv_1⟩ : ∃ g : Int32, g = nde := ⟨_, rfl⟩
    obtain ⟨v_2, hv_2⟩ : ∃ g : Int32, g = nse := ⟨_, rfl⟩
    replace hl : lv_has ls 8 [(6, .int i_72), (0, .ref m0), (1, .int s_), (2, .int n), (4, .int v_1), (5, .int v_2)] := by rw [hv_1, hv_2]; exact hl
    have hbv_1 : 0 ≤ v_1.toInt ∧ v_1.toInt ≤ 24 := by rw [hv_1]; exact ⟨by omega, by omega⟩
    clear h1i_72 hi_72 hv_1 hv_2
    skip
    revert hni_72
    revert hloi_72
    revert hbv_1
    revert hl
    revert hS
    revert hD
    revert hP
    revert ls
    revert locs
    revert H
    revert v_2
    revert v_1
    revert i_72
    induction nfu with
    | zero =>
      intro i_72 v_1 v_2 H locs ls hP hD hS hl hbv_1 hloi_72 hni_72
      have hzi_72 : n.toInt ≤ i_72.toInt := by omega
      refine lv_iload hx hb dX8_judge_72 (lv_at hl 0 rfl) ?_
      refine lv_iload_n hx hb dX8_judge_74 rfl (lv_at hl 3 rfl) ?_
      refine lv_icmp_ge (tgt := 158) hx hb dX8_judge_75 (by decide) (fun c_3 => ?_) (fun c_3 => ?_)
      · have fc_3 : n.toInt ≤ i_72.toInt := zf_le c_3 rfl rfl
        refine lv_iconst (v := (-1)) hx hb dX8_judge_158 (by decide) ?_
        exact W.iret (v := (-1)) hx hb hr (fun t ht hW => ⟨⟨(-1), grf, rfl, trivial, zRet ht hP hD [0, 1, 2, 3, 4, 5, 6, 7] (by decide) rfl⟩, hS.F ht⟩) hS.2.2 dX8_judge_159
      · exfalso; have fc_3 : i_72.toInt < n.toInt := zf_nle c_3 rfl rfl; omega
    | succ nfu ih =>
      intro i_72 v_1 v_2 H locs ls hP hD hS hl hbv_1 hloi_72 hni_72
      refine lv_iload hx hb dX8_judge_72 (lv_at hl 0 rfl) ?_
      refine lv_iload_n hx hb dX8_judge_74 rfl (lv_at hl 3 rfl) ?_
      refine lv_icmp_ge (tgt := 158) hx hb dX8_judge_75 (by decide) (fun c_4 => ?_) (fun c_4 => ?_)
      · have fc_4 : n.toInt ≤ i_72.toInt := zf_le c_4 rfl rfl
        refine lv_iconst (v := (-1)) hx hb dX8_judge_158 (by decide) ?_
        exact W.iret (v := (-1)) hx hb hr (fun t ht hW => ⟨⟨(-1), grf, rfl, trivial, zRet ht hP hD [0, 1, 2, 3, 4, 5, 6, 7] (by decide) rfl⟩, hS.F ht⟩) hS.2.2 dX8_judge_159
      · have fc_4 : i_72.toInt < n.toInt := zf_nle c_4 rfl rfl
        refine lv_aload_n hx hb dX8_judge_78 rfl (lv_at hl 1 rfl) ?_
        refine lv_iload_n hx hb dX8_judge_79 rfl (lv_at hl 2 rfl) ?_
        refine lv_iload hx hb dX8_judge_80 (lv_at hl 0 rfl) ?_
        refine zc_V (As := [.int s_, .int i_72]) (rest := []) ⟨hx, hb, hml, hown, hts⟩ (c_M_intAt l D cI cJ cZ cP cS po m0 mrf mki mpa mta mla msl mco mhe mso msi msh mce mca mwo mnu mte mwa mke mma mth mtr (npu) (nte) (nat_) (nde) (nto) (nse) (nhu) (nga) (nsd) (nfa) (nba) (npl) (nen) (nnu) (nwr) (nra) (nik) gce (s_) (i_72) hy0 hy1 hy2 hy3 hy4 hy5 hy6 hy7 hy8 hy9 hy10 hy11 hy12 hy13 (by omega) (by omega) (by omega) (by omega)) (cwV 2 hts gX8_judge_X8_intAt rfl rfl rfl ⟨rfl, dh_X8_intAt⟩ ⟨Nat.le_of_ble_eq_true rfl, Nat.le_of_ble_eq_true rfl⟩) hK hN (hZ.kept hS) hP (hP.sub [0, 4] rfl) (va_recv (q := (RX8, TX8, 38)) hK hP (ci := 8) (q0 := 0) rfl rfl) rfl hl.1 rfl (Nat.le_of_ble_eq_true rfl) dX8_judge_82 ⟨Nat.le_of_ble_eq_true rfl, Nat.le_of_ble_eq_true rfl⟩ (fun r_5 hr_5 => ?_)
        refine lv_istore (lv' := [(7, .int r_5), (6, .int i_72), (0, .ref m0), (1, .int s_), (2, .int n), (4, .int v_1), (5, .int v_2)]) hx hb dX8_judge_85 hl (by decide) rfl (fun ls hl => ?_)
        refine lv_aload_n hx hb dX8_judge_87 rfl (lv_at hl 2 rfl) ?_
        refine lv_iload hx hb dX8_judge_88 (lv_at hl 0 rfl) ?_
        refine zc_V (As := [.int r_5]) (rest := []) ⟨hx, hb, hml, hown, hts⟩ (c_M_isPull l D cI cJ cZ cP cS po m0 mrf mki mpa mta mla msl mco mhe mso msi msh mce mca mwo mnu mte mwa mke mma mth mtr (npu) (nte) (nat_) (nde) (nto) (nse) (nhu) (nga) (nsd) (nfa) (nba) (npl) (nen) (nnu) (nwr) (nra) (nik) (r_5) hy0 hy1 hy2 hy3 hy4 hy5 hy6 hy7 hy8 hy9 hy10 hy11 hy12 hy13) (cwV 1 hts gX8_judge_X8_isPull rfl rfl rfl ⟨rfl, dh_X8_isPull⟩ ⟨Nat.le_of_ble_eq_true rfl, Nat.le_of_ble_eq_true rfl⟩) hK hN (hZ.kept hS) hP (hP.sub [0] rfl) (va_recv (q := (RX8, TX8, 38)) hK hP (ci := 8) (q0 := 0) rfl rfl) rfl hl.1 rfl (Nat.le_of_ble_eq_true rfl) dX8_judge_90 ⟨Nat.le_of_ble_eq_true rfl, Nat.le_of_ble_eq_true rfl⟩ (fun r_6 hr_6 => ?_)
        rcases hr_6 with ⟨rfl, g_7⟩ | ⟨rfl, g_8, g_9⟩ | ⟨rfl, g_10, g_11⟩
        · refine lv_if_eq (tgt := 109) hx hb dX8_judge_93 (by decide) (fun c_12 => ?_) (fun c_12 => ?_)
          · refine lv_iload hx hb dX8_judge_109 (lv_at hl 1 rfl) ?_
            exact W.iret (v := i_72) hx hb hr (fun t ht hW => ⟨⟨i_72, grf, rfl, trivial, zRet ht hP hD [0, 1, 2, 3, 4, 5, 6, 7] (by decide) rfl⟩, hS.F ht⟩) hS.2.2 dX8_judge_111
          · exact absurd c_12 (by decide)
        · refine lv_if_eq (tgt := 109) hx hb dX8_judge_93 (by decide) (fun c_13 => ?_) (fun c_13 => ?_)
          · refine lv_iload hx hb dX8_judge_109 (lv_at hl 1 rfl) ?_
            exact W.iret (v := i_72) hx hb hr (fun t ht hW => ⟨⟨i_72, grf, rfl, trivial, zRet ht hP hD [0, 1, 2, 3, 4, 5, 6, 7] (by decide) rfl⟩, hS.F ht⟩) hS.2.2 dX8_judge_111
          · exact absurd c_13 (by decide)
        · refine lv_if_eq (tgt := 109) hx hb dX8_judge_93 (by decide) (fun c_14 => ?_) (fun c_14 => ?_)
          · exact absurd c_14 (by decide)
          · refine lv_aload_n hx hb dX8_judge_96 rfl (lv_at hl 2 rfl) ?_
            refine lv_iload hx hb dX8_judge_97 (lv_at hl 0 rfl) ?_
            refine lv_iload hx hb dX8_judge_99 (lv_at hl 5 rfl) ?_
            refine lv_iload hx hb dX8_judge_101 (lv_at hl 6 rfl) ?_
            refine zc_V (As := [.int r_5, .int v_1, .int v_2]) (rest := []) ⟨hx, hb, hml, hown, hts⟩ (c_M_mayBe l D cI cJ cZ cP cS po m0 mrf mki mpa mta mla msl mco mhe mso msi msh mce mca mwo mnu mte mwa mke mma mth mtr (npu) (nte) (nat_) (nde) (nto) (nse) (nhu) (nga) (nsd) (nfa) (nba) (npl) (nen) (nnu) (nwr) (nra) (nik) gta (r_5) (v_1) (v_2) hy0 hy1 hy2 hy3 hy4 hy5 hy6 hy7 hy8 hy9 hy10 hy11 hy12 hy13 (by omega) (by omega) hp_gta) (cwV 3 hts gX8_judge_X8_mayBe rfl rfl rfl ⟨rfl, dh_X8_mayBe⟩ ⟨Nat.le_of_ble_eq_true rfl, Nat.le_of_ble_eq_true rfl⟩) hK hN (hZ.kept hS) hP (hP.sub [0, 7] rfl) (va_recv (q := (RX8, TX8, 38)) hK hP (ci := 8) (q0 := 0) rfl rfl) rfl hl.1 rfl (Nat.le_of_ble_eq_true rfl) dX8_judge_103 ⟨Nat.le_of_ble_eq_true rfl, Nat.le_of_ble_eq_true rfl⟩ (fun r_15 hr_15 => ?_)
            obtain ⟨g_16, g_17, hsr_15_0⟩ := hr_15
            refine lv_if_ne (tgt := 112) hx hb dX8_judge_106 (by decide) (fun c_18 => ?_) (fun c_18 => ?_)
            · have fc_18 : r_15.toInt ≠ 0 := zf_ne c_18 rfl (by decide)
              refine lv_aload_n hx hb dX8_judge_112 rfl (lv_at hl 2 rfl) ?_
              refine lv_iload hx hb dX8_judge_113 (lv_at hl 0 rfl) ?_
              refine lv_iload hx hb dX8_judge_115 (lv_at hl 5 rfl) ?_
              refine lv_aload_n hx hb dX8_judge_117 rfl (lv_at hl 2 rfl) ?_
              refine lv_iload hx hb dX8_judge_118 (lv_at hl 0 rfl) ?_
              refine lv_iload hx hb dX8_judge_120 (lv_at hl 5 rfl) ?_
              refine zc_V (As := [.int r_5, .int v_1]) (rest := [.int v_1, .int r_5, .ref m0]) ⟨hx, hb, hml, hown, hts⟩ (c_M_ways l D cI cJ cZ cP cS po m0 mrf mki mpa mta mla msl mco mhe mso msi msh mce mca mwo mnu mte mwa mke mma mth mtr (npu) (nte) (nat_) (nde) (nto) (nse) (nhu) (nga) (nsd) (nfa) (nba) (npl) (nen) (nnu) (nwr) (nra) (nik) gki gpa (r_5) (v_1) hy0 hy1 hy2 hy3 hy4 hy5 hy6 hy7 hy8 hy9 hy10 hy11 hy12 hy13 (by omega) (by omega) hp_gki hp_gpa) (cwV 2 hts gX8_judge_X8_ways rfl rfl rfl ⟨rfl, dh_X8_ways⟩ ⟨Nat.le_of_ble_eq_true rfl, Nat.le_of_ble_eq_true rfl⟩) hK hN (hZ.kept hS) hP (hP.sub [0, 5, 6] rfl) (va_recv (q := (RX8, TX8, 38)) hK hP (ci := 8) (q0 := 0) rfl rfl) rfl hl.1 rfl (Nat.le_of_ble_eq_true rfl) dX8_judge_122 ⟨Nat.le_of_ble_eq_true rfl, Nat.le_of_ble_eq_true rfl⟩ (fun r_19 hr_19 => ?_)
              obtain ⟨g_20, g_21⟩ := hr_19
              refine lv_bipush (v := 6) hx hb dX8_judge_125 (by decide) ?_
              refine lv_icmp_lt (tgt := 134) hx hb dX8_judge_127 (by decide) (fun c_22 => ?_) (fun c_22 => ?_)
              · have fc_22 : r_19.toInt < 6 := zf_lt c_22 rfl (by decide)
                refine lv_iconst (v := 0) hx hb dX8_judge_134 (by decide) ?_
                refine zc_V (As := [.int r_5, .int v_1, .int 0]) (rest := []) ⟨hx, hb, hml, hown, hts⟩ (c_M_deep l D cI cJ cZ cP cS po m0 mrf mki mpa mta mla msl mco mhe mso msi msh mce mca mwo mnu mte mwa mke mma mth mtr (npu) (nte) (nat_) (nde) (nto) (nse) (nhu) (nga) (nsd) (nfa) (nba) (npl) (nen) (nnu) (nwr) (nra) (nik) gki gpa (r_5) (v_1) (0) hy0 hy1 hy2 hy3 hy4 hy5 hy6 hy7 hy8 hy9 hy10 hy11 hy12 hy13 (by omega) (by omega) hbv_1.1 hbv_1.2 hp_gki hp_gpa) (cwV 3 hts gX8_judge_X8_deep rfl rfl rfl ⟨rfl, dh_X8_deep⟩ ⟨Nat.le_of_ble_eq_true rfl, Nat.le_of_ble_eq_true rfl⟩) hK hN (hZ.kept hS) hP (hP.sub [0, 5, 6] rfl) (va_recv (q := (RX8, TX8, 38)) hK hP (ci := 8) (q0 := 0) rfl rfl) rfl hl.1 rfl (Nat.le_of_ble_eq_true rfl) dX8_judge_135 ⟨Nat.le_of_ble_eq_true rfl, Nat.le_of_ble_eq_true rfl⟩ (fun r_23 hr_23 => ?_)
                obtain ⟨g_24, g_25⟩ := hr_23
                refine lv_istore (lv' := [(4, .int r_23), (7, .int r_5), (6, .int i_72), (0, .ref m0), (1, .int s_), (2, .int n), (5, .int v_2)]) hx hb dX8_judge_138 hl (by decide) rfl (fun ls hl => ?_)
                refine lv_iload hx hb dX8_judge_140 (lv_at hl 6 rfl) ?_
                refine lv_aload_n hx hb dX8_judge_142 rfl (lv_at hl 3 rfl) ?_
                refine va_get (D := D) (ci := 8) (v := .ref mta) (C := RX8) (T := TX8) (N := 38) hx hb hts hi_X8_judge_8 hown hK hP 0 rfl rfl 13 (by decide) (hts (.fieldLink RX8 35 "TheLiningsInItModel" "takes" "[I") (List.mem_of_getElem? (i := 4) rfl)) (fun _ h9 => h9) rfl dX8_judge_143 ?_
                refine lv_iload hx hb dX8_judge_146 (lv_at hl 1 rfl) ?_
                refine va_iald hx hb hK hP 7 0 rfl rfl (zf_in (by omega) (by omega)) dX8_judge_148 ?_
                refine lv_topi (fun x_26 ex_26 => ?_)
                have bx_26 : 0 ≤ x_26.toInt ∧ x_26.toInt ≤ 60 := by rw [ex_26]; exact hp_gta _
                refine lv_isub hx hb dX8_judge_149 ?_
                refine lv_topi (fun x_27 ex_27 => ?_)
                refine lv_istore (lv' := [(5, .int x_27), (4, .int r_23), (7, .int r_5), (6, .int i_72), (0, .ref m0), (1, .int s_), (2, .int n)]) hx hb dX8_judge_150 hl (by decide) rfl (fun ls hl => ?_)
                obtain ⟨x_28, ex_28⟩ : ∃ y : Int32, y = i_72 + 1 := ⟨_, rfl⟩
                have qx_28 : x_28.toInt = i_72.toInt + 1 := dw_inc ex_28 fc_4
                refine lv_iinc (v := x_28) (lv' := [(6, .int x_28), (5, .int x_27), (4, .int r_23), (7, .int r_5), (0, .ref m0), (1, .int s_), (2, .int n)]) hx hb dX8_judge_152 hl (k := 3) rfl ex_28.symm (by decide) rfl (fun ls hl => ?_)
                refine lv_goto (tgt := 72) hx hb dX8_judge_155 (by decide) ?_
                exact ih x_28 r_23 x_27 _ _ _ (hP.sub [0, 1, 2, 3, 4, 5, 6, 7] rfl) (hD.sub [0, 1, 2, 3, 4, 5, 6, 7] (by decide) rfl) hS (lv_sub hl [0, 4, 5, 6, 2, 1] rfl) ⟨by omega, by omega⟩ (dw_lo hloi_72 qx_28) (dw_hn hni_72 qx_28)
              · have fc_22 : 6 ≤ r_19.toInt := zf_nlt c_22 rfl (by decide)
                refine lv_iconst (v := 1) hx hb dX8_judge_130 (by decide) ?_
                refine lv_goto (tgt := 135) hx hb dX8_judge_131 (by decide) ?_
                refine zc_V (As := [.int r_5, .int v_1, .int 1]) (rest := []) ⟨hx, hb, hml, hown, hts⟩ (c_M_deep l D cI cJ cZ cP cS po m0 mrf mki mpa mta mla msl mco mhe mso msi msh mce mca mwo mnu mte mwa mke mma mth mtr (npu) (nte) (nat_) (nde) (nto) (nse) (nhu) (nga) (nsd) (nfa) (nba) (npl) (nen) (nnu) (nwr) (nra) (nik) gki gpa (r_5) (v_1) (1) hy0 hy1 hy2 hy3 hy4 hy5 hy6 hy7 hy8 hy9 hy10 hy11 hy12 hy13 (by omega) (by omega) hbv_1.1 hbv_1.2 hp_gki hp_gpa) (cwV 3 hts gX8_judge_X8_deep rfl rfl rfl ⟨rfl, dh_X8_deep⟩ ⟨Nat.le_of_ble_eq_true rfl, Nat.le_of_ble_eq_true rfl⟩) hK hN (hZ.kept hS) hP (hP.sub [0, 5, 6] rfl) (va_recv (q := (RX8, TX8, 38)) hK hP (ci := 8) (q0 := 0) rfl rfl) rfl hl.1 rfl (Nat.le_of_ble_eq_true rfl) dX8_judge_135 ⟨Nat.le_of_ble_eq_true rfl, Nat.le_of_ble_eq_true rfl⟩ (fun r_29 hr_29 => ?_)
                obtain ⟨g_30, g_31⟩ := hr_29
                refine lv_istore (lv' := [(4, .int r_29), (7, .int r_5), (6, .int i_72), (0, .ref m0), (1, .int s_), (2, .int n), (5, .int v_2)]) hx hb dX8_judge_138 hl (by decide) rfl (fun ls hl => ?_)
                refine lv_iload hx hb dX8_judge_140 (lv_at hl 6 rfl) ?_
                refine lv_aload_n hx hb dX8_judge_142 rfl (lv_at hl 3 rfl) ?_
                refine va_get (D := D) (ci := 8) (v := .ref mta) (C := RX8) (T := TX8) (N := 38) hx hb hts hi_X8_judge_8 hown hK hP 0 rfl rfl 13 (by decide) (hts (.fieldLink RX8 35 "TheLiningsInItModel" "takes" "[I") (List.mem_of_getElem? (i := 4) rfl)) (fun _ h9 => h9) rfl dX8_judge_143 ?_
                refine lv_iload hx hb dX8_judge_146 (lv_at hl 1 rfl) ?_
                refine va_iald hx hb hK hP 7 0 rfl rfl (zf_in (by omega) (by omega)) dX8_judge_148 ?_
                refine lv_topi (fun x_32 ex_32 => ?_)
                have bx_32 : 0 ≤ x_32.toInt ∧ x_32.toInt ≤ 60 := by rw [ex_32]; exact hp_gta _
                refine lv_isub hx hb dX8_judge_149 ?_
                refine lv_topi (fun x_33 ex_33 => ?_)
                refine lv_istore (lv' := [(5, .int x_33), (4, .int r_29), (7, .int r_5), (6, .int i_72), (0, .ref m0), (1, .int s_), (2, .int n)]) hx hb dX8_judge_150 hl (by decide) rfl (fun ls hl => ?_)
                obtain ⟨x_34, ex_34⟩ : ∃ y : Int32, y = i_72 + 1 := ⟨_, rfl⟩
                have qx_34 : x_34.toInt = i_72.toInt + 1 := dw_inc ex_34 fc_4
                refine lv_iinc (v := x_34) (lv' := [(6, .int x_34), (5, .int x_33), (4, .int r_29), (7, .int r_5), (0, .ref m0), (1, .int s_), (2, .int n)]) hx hb dX8_judge_152 hl (k := 3) rfl ex_34.symm (by decide) rfl (fun ls hl => ?_)
                refine lv_goto (tgt := 72) hx hb dX8_judge_155 (by decide) ?_
                exact ih x_34 r_29 x_33 _ _ _ (hP.sub [0, 1, 2, 3, 4, 5, 6, 7] rfl) (hD.sub [0, 1, 2, 3, 4, 5, 6, 7] (by decide) rfl) hS (lv_sub hl [0, 4, 5, 6, 2, 1] rfl) ⟨by omega, by omega⟩ (dw_lo hloi_72 qx_34) (dw_hn hni_72 qx_34)
            · have fc_18 : r_15.toInt = 0 := zf_eq c_18 rfl (by decide)
              refine lv_iload hx hb dX8_judge_109 (lv_at hl 1 rfl) ?_
              exact W.iret (v := i_72) hx hb hr (fun t ht hW => ⟨⟨i_72, grf, rfl, trivial, zRet ht hP hD [0, 1, 2, 3, 4, 5, 6, 7] (by decide) rfl⟩, hS.F ht⟩) hS.2.2 dX8_judge_111
  refine lv_aload_n hx hb dX8_judge_0 rfl (lv_at hl 0 rfl) ?_
  refine lv_iload_n hx hb dX8_judge_1 rfl (lv_at hl 1 rfl) ?_
  refine zc_V (As := [.int s_]) (rest := []) ⟨hx, hb, hml, hown, hts⟩ (c_M_wanted l D cI cJ cZ cP cS po m0 mrf mki mpa mta mla msl mco mhe mso msi msh mce mca mwo mnu mte mwa mke mma mth mtr (npu) (nte) (nat_) (nde) (nto) (nse) (nhu) (nga) (nsd) (nfa) (nba) (npl) (nen) (nnu) (nwr) (nra) (nik) ghe (s_) hy0 hy1 hy2 hy3 hy4 hy5 hy6 hy7 hy8 hy9 hy10 hy11 hy12 hy13 hp_ghe) (cwV 1 hts gX8_judge_X8_wanted rfl rfl rfl ⟨rfl, dh_X8_wanted⟩ ⟨Nat.le_of_ble_eq_true rfl, Nat.le_of_ble_eq_true rfl⟩) hK hN (hZ.kept hS) hP (hP.sub [0, 2] rfl) (va_recv (q := (RX8, TX8, 38)) hK hP (ci := 8) (q0 := 0) rfl rfl) rfl hl.1 rfl (Nat.le_of_ble_eq_true rfl) dX8_judge_2 ⟨Nat.le_of_ble_eq_true rfl, Nat.le_of_ble_eq_true rfl⟩ (fun r_35 hr_35 => ?_)
  rcases hr_35 with ⟨rfl, g_36⟩ | ⟨rfl, g_37, g_38⟩ | ⟨rfl, g_39, g_40⟩ | ⟨rfl, g_41, g_42⟩ | ⟨rfl, g_43, g_44⟩
  · refine lv_istore_n (lv' := [(3, .int (-1)), (0, .ref m0), (1, .int s_), (2, .int n)]) hx hb dX8_judge_5 rfl hl (by decide) rfl (fun ls hl => ?_)
    refine lv_iload_n hx hb dX8_judge_6 rfl (lv_at hl 0 rfl) ?_
    refine lv_if_ne (tgt := 47) hx hb dX8_judge_7 (by decide) (fun c_45 => ?_) (fun c_45 => ?_)
    · refine lv_iload_n hx hb dX8_judge_47 rfl (lv_at hl 0 rfl) ?_
      refine lv_if_eq (tgt := 57) hx hb dX8_judge_48 (by decide) (fun c_46 => ?_) (fun c_46 => ?_)
      · exact absurd c_46 (by decide)
      · refine lv_aload_n hx hb dX8_judge_51 rfl (lv_at hl 1 rfl) ?_
        refine lv_iload_n hx hb dX8_judge_52 rfl (lv_at hl 0 rfl) ?_
        skip
        refine zw_V (As := [.int (-1)]) (rest := []) (wr := [(mhe, .inl (cI, 8, .inl ghe)), (msi, .inl (cI, 8, .inl gsi)), (mce, .inl (cJ, 1280, .inr (.inl gce))), (mki, .inl (cI, 8, .inl gki)), (mpa, .inl (cI, 8, .inl gpa)), (mta, .inl (cI, 8, .inl gta))]) ⟨hx, hb, hml, hown, hts⟩ (c_M_noTen_1 l D cI cJ cZ cP cS po m0 mrf mki mpa mta mla msl mco mhe mso msi msh mce mca mwo mnu mte mwa mke mma mth mtr (npu) (nte) (nat_) (nde) (nto) (nse) (nhu) (nga) (nsd) (nfa) (nba) (npl) (nen) (nnu) (nwr) (nra) (nik) grf hy0 hy1 hy2 hy3 hy4 hy5 hy6 hy7 hy8 hy9 hy10 hy11 hy12 hy13 H.size) (cwV 1 hts gX8_judge_X8_noTen rfl rfl rfl ⟨rfl, dh_X8_noTen⟩ ⟨Nat.le_of_ble_eq_true rfl, Nat.le_of_ble_eq_true rfl⟩) hK hN (hZ.kept hS) hP hD hS hA [0, 1] [2, 3, 4, 5, 6, 7] rfl rfl (by decide) (by decide) (by decide) (va_recv (q := (RX8, TX8, 38)) hK hP (ci := 8) (q0 := 0) rfl rfl) rfl hl.1 rfl (Nat.le_of_ble_eq_true rfl) dX8_judge_53 ⟨Nat.le_of_ble_eq_true rfl, Nat.le_of_ble_eq_true rfl⟩ (fun r_47 u_48 H locs hr_47 hP hD hS => ?_)
        obtain ⟨q_49, rfl⟩ : ∃ z, z = u_48 := ⟨_, rfl⟩
        have h9R := zRe (ws' := [(mhe, .inl (cI, 8, .inl ghe)), (msi, .inl (cI, 8, .inl gsi)), (mce, .inl (cJ, 1280, .inr (.inl gce))), (mki, .inl (cI, 8, .inl gki)), (mpa, .inl (cI, 8, .inl gpa)), (mta, .inl (cI, 8, .inl gta)), (zMO m0 npu nte nat_ nde nto nse nhu nga nsd nfa mrf mki mpa mta mla msl mco mhe mso msi msh mce mca mwo mnu mte nba npl nen nnu nwr mwa mke mma mth mtr nra nik), (mrf, .inl (cI, 8, .inl q_49))]) hP hD rfl
        clear hP hD
        obtain ⟨hP, hD⟩ := h9R
        obtain rfl := hr_47
        exact W.iret (v := (-11)) hx hb hr (fun t ht hW => ⟨⟨(-11), q_49, rfl, trivial, zRet ht hP hD [6, 7, 0, 1, 2, 3, 4, 5] (by decide) rfl⟩, hS.F ht⟩) hS.2.2 dX8_judge_56
    · exact absurd c_45 (by decide)
  · refine lv_istore_n (lv' := [(3, .int (-1)), (0, .ref m0), (1, .int s_), (2, .int n)]) hx hb dX8_judge_5 rfl hl (by decide) rfl (fun ls hl => ?_)
    refine lv_iload_n hx hb dX8_judge_6 rfl (lv_at hl 0 rfl) ?_
    refine lv_if_ne (tgt := 47) hx hb dX8_judge_7 (by decide) (fun c_50 => ?_) (fun c_50 => ?_)
    · refine lv_iload_n hx hb dX8_judge_47 rfl (lv_at hl 0 rfl) ?_
      refine lv_if_eq (tgt := 57) hx hb dX8_judge_48 (by decide) (fun c_51 => ?_) (fun c_51 => ?_)
      · exact absurd c_51 (by decide)
      · refine lv_aload_n hx hb dX8_judge_51 rfl (lv_at hl 1 rfl) ?_
        refine lv_iload_n hx hb dX8_judge_52 rfl (lv_at hl 0 rfl) ?_
        skip
        refine zw_V (As := [.int (-1)]) (rest := []) (wr := [(mhe, .inl (cI, 8, .inl ghe)), (msi, .inl (cI, 8, .inl gsi)), (mce, .inl (cJ, 1280, .inr (.inl gce))), (mki, .inl (cI, 8, .inl gki)), (mpa, .inl (cI, 8, .inl gpa)), (mta, .inl (cI, 8, .inl gta))]) ⟨hx, hb, hml, hown, hts⟩ (c_M_noTen_1 l D cI cJ cZ cP cS po m0 mrf mki mpa mta mla msl mco mhe mso msi msh mce mca mwo mnu mte mwa mke mma mth mtr (npu) (nte) (nat_) (nde) (nto) (nse) (nhu) (nga) (nsd) (nfa) (nba) (npl) (nen) (nnu) (nwr) (nra) (nik) grf hy0 hy1 hy2 hy3 hy4 hy5 hy6 hy7 hy8 hy9 hy10 hy11 hy12 hy13 H.size) (cwV 1 hts gX8_judge_X8_noTen rfl rfl rfl ⟨rfl, dh_X8_noTen⟩ ⟨Nat.le_of_ble_eq_true rfl, Nat.le_of_ble_eq_true rfl⟩) hK hN (hZ.kept hS) hP hD hS hA [0, 1] [2, 3, 4, 5, 6, 7] rfl rfl (by decide) (by decide) (by decide) (va_recv (q := (RX8, TX8, 38)) hK hP (ci := 8) (q0 := 0) rfl rfl) rfl hl.1 rfl (Nat.le_of_ble_eq_true rfl) dX8_judge_53 ⟨Nat.le_of_ble_eq_true rfl, Nat.le_of_ble_eq_true rfl⟩ (fun r_52 u_53 H locs hr_52 hP hD hS => ?_)
        obtain ⟨q_54, rfl⟩ : ∃ z, z = u_53 := ⟨_, rfl⟩
        have h9R := zRe (ws' := [(mhe, .inl (cI, 8, .inl ghe)), (msi, .inl (cI, 8, .inl gsi)), (mce, .inl (cJ, 1280, .inr (.inl gce))), (mki, .inl (cI, 8, .inl gki)), (mpa, .inl (cI, 8, .inl gpa)), (mta, .inl (cI, 8, .inl gta)), (zMO m0 npu nte nat_ nde nto nse nhu nga nsd nfa mrf mki mpa mta mla msl mco mhe mso msi msh mce mca mwo mnu mte nba npl nen nnu nwr mwa mke mma mth mtr nra nik), (mrf, .inl (cI, 8, .inl q_54))]) hP hD rfl
        clear hP hD
        obtain ⟨hP, hD⟩ := h9R
        obtain rfl := hr_52
        exact W.iret (v := (-11)) hx hb hr (fun t ht hW => ⟨⟨(-11), q_54, rfl, trivial, zRet ht hP hD [6, 7, 0, 1, 2, 3, 4, 5] (by decide) rfl⟩, hS.F ht⟩) hS.2.2 dX8_judge_56
    · exact absurd c_50 (by decide)
  · refine lv_istore_n (lv' := [(3, .int 0), (0, .ref m0), (1, .int s_), (2, .int n)]) hx hb dX8_judge_5 rfl hl (by decide) rfl (fun ls hl => ?_)
    refine lv_iload_n hx hb dX8_judge_6 rfl (lv_at hl 0 rfl) ?_
    refine lv_if_ne (tgt := 47) hx hb dX8_judge_7 (by decide) (fun c_55 => ?_) (fun c_55 => ?_)
    · exact absurd c_55 (by decide)
    · refine lv_iload_n hx hb dX8_judge_10 rfl (lv_at hl 3 rfl) ?_
      refine lv_if_ge (tgt := 19) hx hb dX8_judge_11 (by decide) (fun c_56 => ?_) (fun c_56 => ?_)
      · have fc_56 : 0 ≤ n.toInt := zf_le c_56 (by decide) rfl
        refine lv_iload_n hx hb dX8_judge_19 rfl (lv_at hl 3 rfl) ?_
        refine lv_aload_n hx hb dX8_judge_20 rfl (lv_at hl 1 rfl) ?_
        refine va_get (D := D) (ci := 8) (v := .ref msi) (C := RX8) (T := TX8) (N := 38) hx hb hts hi_X8_judge_8 hown hK hP 0 rfl rfl 19 (by decide) (hts (.fieldLink RX8 53 "TheLiningsInItModel" "size" "[I") (List.mem_of_getElem? (i := 1) rfl)) (fun _ h9 => h9) rfl dX8_judge_21 ?_
        refine lv_iload_n hx hb dX8_judge_24 rfl (lv_at hl 2 rfl) ?_
        refine va_iald hx hb hK hP 3 0 rfl rfl (zf_in (by omega) (by omega)) dX8_judge_25 ?_
        refine lv_topi (fun x_57 ex_57 => ?_)
        have bx_57 : 0 ≤ x_57.toInt ∧ x_57.toInt ≤ 160 := by rw [ex_57]; exact hp_gsi _
        refine lv_icmp_le (tgt := 34) hx hb dX8_judge_26 (by decide) (fun c_58 => ?_) (fun c_58 => ?_)
        · have fc_58 : n.toInt ≤ x_57.toInt := zf_le c_58 rfl rfl
          refine lv_iload_n hx hb dX8_judge_34 rfl (lv_at hl 3 rfl) ?_
          refine lv_bipush (v := 20) hx hb dX8_judge_35 (by decide) ?_
          refine lv_icmp_le (tgt := 45) hx hb dX8_judge_37 (by decide) (fun c_59 => ?_) (fun c_59 => ?_)
          · have fc_59 : n.toInt ≤ 20 := zf_le c_59 rfl (by decide)
            refine lv_iconst (v := 0) hx hb dX8_judge_45 (by decide) ?_
            refine lv_istore_n (lv' := [(3, .int 0), (0, .ref m0), (1, .int s_), (2, .int n)]) hx hb dX8_judge_46 rfl hl (by decide) rfl (fun ls hl => ?_)
            refine lv_iload_n hx hb dX8_judge_47 rfl (lv_at hl 0 rfl) ?_
            refine lv_if_eq (tgt := 57) hx hb dX8_judge_48 (by decide) (fun c_60 => ?_) (fun c_60 => ?_)
            · refine lv_aload_n hx hb dX8_judge_57 rfl (lv_at hl 1 rfl) ?_
              refine va_get (D := D) (ci := 8) (v := .int nde) (C := RX8) (T := TX8) (N := 38) hx hb hts hi_X8_judge_8 hown hK hP 0 rfl rfl 3 (by decide) (hts (.fieldLink RX8 115 "TheLiningsInItModel" "depth" "I") (List.mem_of_getElem? (i := 2) rfl)) (fun _ h9 => h9) rfl dX8_judge_58 ?_
              refine lv_istore (lv' := [(4, .int nde), (3, .int 0), (0, .ref m0), (1, .int s_), (2, .int n)]) hx hb dX8_judge_61 hl (by decide) rfl (fun ls hl => ?_)
              refine lv_aload_n hx hb dX8_judge_63 rfl (lv_at hl 2 rfl) ?_
              refine va_get (D := D) (ci := 8) (v := .int nse) (C := RX8) (T := TX8) (N := 38) hx hb hts hi_X8_judge_8 hown hK hP 0 rfl rfl 5 (by decide) (hts (.fieldLink RX8 13 "TheLiningsInItModel" "seconds" "I") (List.mem_of_getElem? (i := 3) rfl)) (fun _ h9 => h9) rfl dX8_judge_64 ?_
              refine lv_istore (lv' := [(5, .int nse), (4, .int nde), (3, .int 0), (0, .ref m0), (1, .int s_), (2, .int n)]) hx hb dX8_judge_67 hl (by decide) rfl (fun ls hl => ?_)
              exact hcut69 H locs ls  hP hD hS (lv_sub hl [3, 4, 5, 1, 0] rfl) (by first | omega | assumption | (simp; done) | (simp; omega))
            · exact absurd c_60 (by decide)
          · have fc_59 : 20 < n.toInt := zf_nle c_59 rfl (by decide)
            refine lv_bipush (v := (-6)) hx hb dX8_judge_40 (by decide) ?_
            refine lv_goto (tgt := 46) hx hb dX8_judge_42 (by decide) ?_
            refine lv_istore_n (lv' := [(3, .int (-6)), (0, .ref m0), (1, .int s_), (2, .int n)]) hx hb dX8_judge_46 rfl hl (by decide) rfl (fun ls hl => ?_)
            refine lv_iload_n hx hb dX8_judge_47 rfl (lv_at hl 0 rfl) ?_
            refine lv_if_eq (tgt := 57) hx hb dX8_judge_48 (by decide) (fun c_61 => ?_) (fun c_61 => ?_)
            · exact absurd c_61 (by decide)
            · refine lv_aload_n hx hb dX8_judge_51 rfl (lv_at hl 1 rfl) ?_
              refine lv_iload_n hx hb dX8_judge_52 rfl (lv_at hl 0 rfl) ?_
              skip
              refine zw_V (As := [.int (-6)]) (rest := []) (wr := [(mhe, .inl (cI, 8, .inl ghe)), (msi, .inl (cI, 8, .inl gsi)), (mce, .inl (cJ, 1280, .inr (.inl gce))), (mki, .inl (cI, 8, .inl gki)), (mpa, .inl (cI, 8, .inl gpa)), (mta, .inl (cI, 8, .inl gta))]) ⟨hx, hb, hml, hown, hts⟩ (c_M_noTen_6 l D cI cJ cZ cP cS po m0 mrf mki mpa mta mla msl mco mhe mso msi msh mce mca mwo mnu mte mwa mke mma mth mtr (npu) (nte) (nat_) (nde) (nto) (nse) (nhu) (nga) (nsd) (nfa) (nba) (npl) (nen) (nnu) (nwr) (nra) (nik) grf hy0 hy1 hy2 hy3 hy4 hy5 hy6 hy7 hy8 hy9 hy10 hy11 hy12 hy13 H.size) (cwV 1 hts gX8_judge_X8_noTen rfl rfl rfl ⟨rfl, dh_X8_noTen⟩ ⟨Nat.le_of_ble_eq_true rfl, Nat.le_of_ble_eq_true rfl⟩) hK hN (hZ.kept hS) hP hD hS hA [0, 1] [2, 3, 4, 5, 6, 7] rfl rfl (by decide) (by decide) (by decide) (va_recv (q := (RX8, TX8, 38)) hK hP (ci := 8) (q0 := 0) rfl rfl) rfl hl.1 rfl (Nat.le_of_ble_eq_true rfl) dX8_judge_53 ⟨Nat.le_of_ble_eq_true rfl, Nat.le_of_ble_eq_true rfl⟩ (fun r_62 u_63 H locs hr_62 hP hD hS => ?_)
              obtain ⟨q_64, rfl⟩ : ∃ z, z = u_63 := ⟨_, rfl⟩
              have h9R := zRe (ws' := [(mhe, .inl (cI, 8, .inl ghe)), (msi, .inl (cI, 8, .inl gsi)), (mce, .inl (cJ, 1280, .inr (.inl gce))), (mki, .inl (cI, 8, .inl gki)), (mpa, .inl (cI, 8, .inl gpa)), (mta, .inl (cI, 8, .inl gta)), (zMO m0 npu nte nat_ nde nto nse nhu nga nsd nfa mrf mki mpa mta mla msl mco mhe mso msi msh mce mca mwo mnu mte nba npl nen nnu nwr mwa mke mma mth mtr nra nik), (mrf, .inl (cI, 8, .inl q_64))]) hP hD rfl
              clear hP hD
              obtain ⟨hP, hD⟩ := h9R
              obtain rfl := hr_62
              exact W.iret (v := (-16)) hx hb hr (fun t ht hW => ⟨⟨(-16), q_64, rfl, trivial, zRet ht hP hD [6, 7, 0, 1, 2, 3, 4, 5] (by decide) rfl⟩, hS.F ht⟩) hS.2.2 dX8_judge_56
        · have fc_58 : x_57.toInt < n.toInt := zf_nle c_58 rfl rfl
          refine lv_bipush (v := (-5)) hx hb dX8_judge_29 (by decide) ?_
          refine lv_goto (tgt := 46) hx hb dX8_judge_31 (by decide) ?_
          refine lv_istore_n (lv' := [(3, .int (-5)), (0, .ref m0), (1, .int s_), (2, .int n)]) hx hb dX8_judge_46 rfl hl (by decide) rfl (fun ls hl => ?_)
          refine lv_iload_n hx hb dX8_judge_47 rfl (lv_at hl 0 rfl) ?_
          refine lv_if_eq (tgt := 57) hx hb dX8_judge_48 (by decide) (fun c_65 => ?_) (fun c_65 => ?_)
          · exact absurd c_65 (by decide)
          · refine lv_aload_n hx hb dX8_judge_51 rfl (lv_at hl 1 rfl) ?_
            refine lv_iload_n hx hb dX8_judge_52 rfl (lv_at hl 0 rfl) ?_
            skip
            refine zw_V (As := [.int (-5)]) (rest := []) (wr := [(mhe, .inl (cI, 8, .inl ghe)), (msi, .inl (cI, 8, .inl gsi)), (mce, .inl (cJ, 1280, .inr (.inl gce))), (mki, .inl (cI, 8, .inl gki)), (mpa, .inl (cI, 8, .inl gpa)), (mta, .inl (cI, 8, .inl gta))]) ⟨hx, hb, hml, hown, hts⟩ (c_M_noTen_5 l D cI cJ cZ cP cS po m0 mrf mki mpa mta mla msl mco mhe mso msi msh mce mca mwo mnu mte mwa mke mma mth mtr (npu) (nte) (nat_) (nde) (nto) (nse) (nhu) (nga) (nsd) (nfa) (nba) (npl) (nen) (nnu) (nwr) (nra) (nik) grf hy0 hy1 hy2 hy3 hy4 hy5 hy6 hy7 hy8 hy9 hy10 hy11 hy12 hy13 H.size) (cwV 1 hts gX8_judge_X8_noTen rfl rfl rfl ⟨rfl, dh_X8_noTen⟩ ⟨Nat.le_of_ble_eq_true rfl, Nat.le_of_ble_eq_true rfl⟩) hK hN (hZ.kept hS) hP hD hS hA [0, 1] [2, 3, 4, 5, 6, 7] rfl rfl (by decide) (by decide) (by decide) (va_recv (q := (RX8, TX8, 38)) hK hP (ci := 8) (q0 := 0) rfl rfl) rfl hl.1 rfl (Nat.le_of_ble_eq_true rfl) dX8_judge_53 ⟨Nat.le_of_ble_eq_true rfl, Nat.le_of_ble_eq_true rfl⟩ (fun r_66 u_67 H locs hr_66 hP hD hS => ?_)
            obtain ⟨q_68, rfl⟩ : ∃ z, z = u_67 := ⟨_, rfl⟩
            have h9R := zRe (ws' := [(mhe, .inl (cI, 8, .inl ghe)), (msi, .inl (cI, 8, .inl gsi)), (mce, .inl (cJ, 1280, .inr (.inl gce))), (mki, .inl (cI, 8, .inl gki)), (mpa, .inl (cI, 8, .inl gpa)), (mta, .inl (cI, 8, .inl gta)), (zMO m0 npu nte nat_ nde nto nse nhu nga nsd nfa mrf mki mpa mta mla msl mco mhe mso msi msh mce mca mwo mnu mte nba npl nen nnu nwr mwa mke mma mth mtr nra nik), (mrf, .inl (cI, 8, .inl q_68))]) hP hD rfl
            clear hP hD
            obtain ⟨hP, hD⟩ := h9R
            obtain rfl := hr_66
            exact W.iret (v := (-15)) hx hb hr (fun t ht hW => ⟨⟨(-15), q_68, rfl, trivial, zRet ht hP hD [6, 7, 0, 1, 2, 3, 4, 5] (by decide) rfl⟩, hS.F ht⟩) hS.2.2 dX8_judge_56
      · have fc_56 : n.toInt < 0 := zf_nle c_56 (by decide) rfl
        refine lv_bipush (v := (-4)) hx hb dX8_judge_14 (by decide) ?_
        refine lv_goto (tgt := 46) hx hb dX8_judge_16 (by decide) ?_
        refine lv_istore_n (lv' := [(3, .int (-4)), (0, .ref m0), (1, .int s_), (2, .int n)]) hx hb dX8_judge_46 rfl hl (by decide) rfl (fun ls hl => ?_)
        refine lv_iload_n hx hb dX8_judge_47 rfl (lv_at hl 0 rfl) ?_
        refine lv_if_eq (tgt := 57) hx hb dX8_judge_48 (by decide) (fun c_69 => ?_) (fun c_69 => ?_)
        · exact absurd c_69 (by decide)
        · refine lv_aload_n hx hb dX8_judge_51 rfl (lv_at hl 1 rfl) ?_
          refine lv_iload_n hx hb dX8_judge_52 rfl (lv_at hl 0 rfl) ?_
          skip
          refine zw_V (As := [.int (-4)]) (rest := []) (wr := [(mhe, .inl (cI, 8, .inl ghe)), (msi, .inl (cI, 8, .inl gsi)), (mce, .inl (cJ, 1280, .inr (.inl gce))), (mki, .inl (cI, 8, .inl gki)), (mpa, .inl (cI, 8, .inl gpa)), (mta, .inl (cI, 8, .inl gta))]) ⟨hx, hb, hml, hown, hts⟩ (c_M_noTen_4 l D cI cJ cZ cP cS po m0 mrf mki mpa mta mla msl mco mhe mso msi msh mce mca mwo mnu mte mwa mke mma mth mtr (npu) (nte) (nat_) (nde) (nto) (nse) (nhu) (nga) (nsd) (nfa) (nba) (npl) (nen) (nnu) (nwr) (nra) (nik) grf hy0 hy1 hy2 hy3 hy4 hy5 hy6 hy7 hy8 hy9 hy10 hy11 hy12 hy13 H.size) (cwV 1 hts gX8_judge_X8_noTen rfl rfl rfl ⟨rfl, dh_X8_noTen⟩ ⟨Nat.le_of_ble_eq_true rfl, Nat.le_of_ble_eq_true rfl⟩) hK hN (hZ.kept hS) hP hD hS hA [0, 1] [2, 3, 4, 5, 6, 7] rfl rfl (by decide) (by decide) (by decide) (va_recv (q := (RX8, TX8, 38)) hK hP (ci := 8) (q0 := 0) rfl rfl) rfl hl.1 rfl (Nat.le_of_ble_eq_true rfl) dX8_judge_53 ⟨Nat.le_of_ble_eq_true rfl, Nat.le_of_ble_eq_true rfl⟩ (fun r_70 u_71 H locs hr_70 hP hD hS => ?_)
          obtain ⟨q_72, rfl⟩ : ∃ z, z = u_71 := ⟨_, rfl⟩
          have h9R := zRe (ws' := [(mhe, .inl (cI, 8, .inl ghe)), (msi, .inl (cI, 8, .inl gsi)), (mce, .inl (cJ, 1280, .inr (.inl gce))), (mki, .inl (cI, 8, .inl gki)), (mpa, .inl (cI, 8, .inl gpa)), (mta, .inl (cI, 8, .inl gta)), (zMO m0 npu nte nat_ nde nto nse nhu nga nsd nfa mrf mki mpa mta mla msl mco mhe mso msi msh mce mca mwo mnu mte nba npl nen nnu nwr mwa mke mma mth mtr nra nik), (mrf, .inl (cI, 8, .inl q_72))]) hP hD rfl
          clear hP hD
          obtain ⟨hP, hD⟩ := h9R
          obtain rfl := hr_70
          exact W.iret (v := (-14)) hx hb hr (fun t ht hW => ⟨⟨(-14), q_72, rfl, trivial, zRet ht hP hD [6, 7, 0, 1, 2, 3, 4, 5] (by decide) rfl⟩, hS.F ht⟩) hS.2.2 dX8_judge_56
  · refine lv_istore_n (lv' := [(3, .int (-3)), (0, .ref m0), (1, .int s_), (2, .int n)]) hx hb dX8_judge_5 rfl hl (by decide) rfl (fun ls hl => ?_)
    refine lv_iload_n hx hb dX8_judge_6 rfl (lv_at hl 0 rfl) ?_
    refine lv_if_ne (tgt := 47) hx hb dX8_judge_7 (by decide) (fun c_73 => ?_) (fun c_73 => ?_)
    · refine lv_iload_n hx hb dX8_judge_47 rfl (lv_at hl 0 rfl) ?_
      refine lv_if_eq (tgt := 57) hx hb dX8_judge_48 (by decide) (fun c_74 => ?_) (fun c_74 => ?_)
      · exact absurd c_74 (by decide)
      · refine lv_aload_n hx hb dX8_judge_51 rfl (lv_at hl 1 rfl) ?_
        refine lv_iload_n hx hb dX8_judge_52 rfl (lv_at hl 0 rfl) ?_
        skip
        refine zw_V (As := [.int (-3)]) (rest := []) (wr := [(mhe, .inl (cI, 8, .inl ghe)), (msi, .inl (cI, 8, .inl gsi)), (mce, .inl (cJ, 1280, .inr (.inl gce))), (mki, .inl (cI, 8, .inl gki)), (mpa, .inl (cI, 8, .inl gpa)), (mta, .inl (cI, 8, .inl gta))]) ⟨hx, hb, hml, hown, hts⟩ (c_M_noTen_3 l D cI cJ cZ cP cS po m0 mrf mki mpa mta mla msl mco mhe mso msi msh mce mca mwo mnu mte mwa mke mma mth mtr (npu) (nte) (nat_) (nde) (nto) (nse) (nhu) (nga) (nsd) (nfa) (nba) (npl) (nen) (nnu) (nwr) (nra) (nik) grf hy0 hy1 hy2 hy3 hy4 hy5 hy6 hy7 hy8 hy9 hy10 hy11 hy12 hy13 H.size) (cwV 1 hts gX8_judge_X8_noTen rfl rfl rfl ⟨rfl, dh_X8_noTen⟩ ⟨Nat.le_of_ble_eq_true rfl, Nat.le_of_ble_eq_true rfl⟩) hK hN (hZ.kept hS) hP hD hS hA [0, 1] [2, 3, 4, 5, 6, 7] rfl rfl (by decide) (by decide) (by decide) (va_recv (q := (RX8, TX8, 38)) hK hP (ci := 8) (q0 := 0) rfl rfl) rfl hl.1 rfl (Nat.le_of_ble_eq_true rfl) dX8_judge_53 ⟨Nat.le_of_ble_eq_true rfl, Nat.le_of_ble_eq_true rfl⟩ (fun r_75 u_76 H locs hr_75 hP hD hS => ?_)
        obtain ⟨q_77, rfl⟩ : ∃ z, z = u_76 := ⟨_, rfl⟩
        have h9R := zRe (ws' := [(mhe, .inl (cI, 8, .inl ghe)), (msi, .inl (cI, 8, .inl gsi)), (mce, .inl (cJ, 1280, .inr (.inl gce))), (mki, .inl (cI, 8, .inl gki)), (mpa, .inl (cI, 8, .inl gpa)), (mta, .inl (cI, 8, .inl gta)), (zMO m0 npu nte nat_ nde nto nse nhu nga nsd nfa mrf mki mpa mta mla msl mco mhe mso msi msh mce mca mwo mnu mte nba npl nen nnu nwr mwa mke mma mth mtr nra nik), (mrf, .inl (cI, 8, .inl q_77))]) hP hD rfl
        clear hP hD
        obtain ⟨hP, hD⟩ := h9R
        obtain rfl := hr_75
        exact W.iret (v := (-13)) hx hb hr (fun t ht hW => ⟨⟨(-13), q_77, rfl, trivial, zRet ht hP hD [6, 7, 0, 1, 2, 3, 4, 5] (by decide) rfl⟩, hS.F ht⟩) hS.2.2 dX8_judge_56
    · exact absurd c_73 (by decide)
  · refine lv_istore_n (lv' := [(3, .int (-2)), (0, .ref m0), (1, .int s_), (2, .int n)]) hx hb dX8_judge_5 rfl hl (by decide) rfl (fun ls hl => ?_)
    refine lv_iload_n hx hb dX8_judge_6 rfl (lv_at hl 0 rfl) ?_
    refine lv_if_ne (tgt := 47) hx hb dX8_judge_7 (by decide) (fun c_78 => ?_) (fun c_78 => ?_)
    · refine lv_iload_n hx hb dX8_judge_47 rfl (lv_at hl 0 rfl) ?_
      refine lv_if_eq (tgt := 57) hx hb dX8_judge_48 (by decide) (fun c_79 => ?_) (fun c_79 => ?_)
      · exact absurd c_79 (by decide)
      · refine lv_aload_n hx hb dX8_judge_51 rfl (lv_at hl 1 rfl) ?_
        refine lv_iload_n hx hb dX8_judge_52 rfl (lv_at hl 0 rfl) ?_
        skip
        refine zw_V (As := [.int (-2)]) (rest := []) (wr := [(mhe, .inl (cI, 8, .inl ghe)), (msi, .inl (cI, 8, .inl gsi)), (mce, .inl (cJ, 1280, .inr (.inl gce))), (mki, .inl (cI, 8, .inl gki)), (mpa, .inl (cI, 8, .inl gpa)), (mta, .inl (cI, 8, .inl gta))]) ⟨hx, hb, hml, hown, hts⟩ (c_M_noTen_2 l D cI cJ cZ cP cS po m0 mrf mki mpa mta mla msl mco mhe mso msi msh mce mca mwo mnu mte mwa mke mma mth mtr (npu) (nte) (nat_) (nde) (nto) (nse) (nhu) (nga) (nsd) (nfa) (nba) (npl) (nen) (nnu) (nwr) (nra) (nik) grf hy0 hy1 hy2 hy3 hy4 hy5 hy6 hy7 hy8 hy9 hy10 hy11 hy12 hy13 H.size) (cwV 1 hts gX8_judge_X8_noTen rfl rfl rfl ⟨rfl, dh_X8_noTen⟩ ⟨Nat.le_of_ble_eq_true rfl, Nat.le_of_ble_eq_true rfl⟩) hK hN (hZ.kept hS) hP hD hS hA [0, 1] [2, 3, 4, 5, 6, 7] rfl rfl (by decide) (by decide) (by decide) (va_recv (q := (RX8, TX8, 38)) hK hP (ci := 8) (q0 := 0) rfl rfl) rfl hl.1 rfl (Nat.le_of_ble_eq_true rfl) dX8_judge_53 ⟨Nat.le_of_ble_eq_true rfl, Nat.le_of_ble_eq_true rfl⟩ (fun r_80 u_81 H locs hr_80 hP hD hS => ?_)
        obtain ⟨q_82, rfl⟩ : ∃ z, z = u_81 := ⟨_, rfl⟩
        have h9R := zRe (ws' := [(mhe, .inl (cI, 8, .inl ghe)), (msi, .inl (cI, 8, .inl gsi)), (mce, .inl (cJ, 1280, .inr (.inl gce))), (mki, .inl (cI, 8, .inl gki)), (mpa, .inl (cI, 8, .inl gpa)), (mta, .inl (cI, 8, .inl gta)), (zMO m0 npu nte nat_ nde nto nse nhu nga nsd nfa mrf mki mpa mta mla msl mco mhe mso msi msh mce mca mwo mnu mte nba npl nen nnu nwr mwa mke mma mth mtr nra nik), (mrf, .inl (cI, 8, .inl q_82))]) hP hD rfl
        clear hP hD
        obtain ⟨hP, hD⟩ := h9R
        obtain rfl := hr_80
        exact W.iret (v := (-12)) hx hb hr (fun t ht hW => ⟨⟨(-12), q_82, rfl, trivial, zRet ht hP hD [6, 7, 0, 1, 2, 3, 4, 5] (by decide) rfl⟩, hS.F ht⟩) hS.2.2 dX8_judge_56
    · exact absurd c_78 (by decide)
set_option maxHeartbeats 4000000 in
set_option maxRecDepth 100000 in
theorem c_M_mayMake (l : Launch) (D : va_G) (cI cJ cZ cP cS : ClassId) (po : zPool) (m0 mrf mki mpa mta mla msl mco mhe mso msi msh mce mca mwo mnu mte mwa mke mma mth mtr : Nat) (npu nte nat_ nde nto nse nhu nga nsd nfa nba npl nen nnu nwr nra nik : Int32) (gki gpa : Nat → Int32) (p_ d to : Int32) (hy0 : 0 ≤ npu.toInt) (hy1 : npu.toInt ≤ 8) (hy2 : 4 ≤ nte.toInt) (hy3 : nte.toInt ≤ 40) (hy4 : 0 ≤ nat_.toInt) (hy5 : nat_.toInt ≤ 40) (hy6 : 0 ≤ nde.toInt) (hy7 : nde.toInt ≤ 24) (hy8 : 0 ≤ nhu.toInt) (hy9 : nhu.toInt ≤ 9) (hy10 : 0 ≤ nra.toInt) (hy11 : nra.toInt ≤ 2000) (hy12 : 0 ≤ nik.toInt) (hy13 : nik.toInt ≤ 1) (hy14 : 0 ≤ p_.toInt) (hy15 : p_.toInt ≤ 7) (hp_gki : zRg gki (0) 6) (hp_gpa : zRg gpa (0) 9) : Met l yX8_mayMake wsX8_mayMake ({ frames := 2, cells := 0, slots := 0, locals := 45 }) (va_Pc [.ref m0, .int p_, .int d, .int to] (zR D (zKT cI cJ cZ cP cS) po [(zMO m0 npu nte nat_ nde nto nse nhu nga nsd nfa mrf mki mpa mta mla msl mco mhe mso msi msh mce mca mwo mnu mte nba npl nen nnu nwr mwa mke mma mth mtr nra nik), (mki, .inl (cI, 8, .inl gki)), (mpa, .inl (cI, 8, .inl gpa))])) (vp_Si (fun r => 0 ≤ r.toInt ∧ r.toInt ≤ 1)) 0 0 (fun _ => False) := by
  refine Met.ofW (cc := cX8_mayMake) (maxL := 5) (ret := (some .boolean)) (by decide) rfl ?_
  intro p e s m args below meth c s₁ B hml hv
  obtain ⟨rfl, hP, hK, hN, hZ⟩ := hv
  have hx := B.exec
  have hb := B.bytes
  have hr := B.returns
  have hts := atoms_spec (ws := wsX8_mayMake) B.pre
  have hown : s.vm.findClass RX8 = some m.cls := findClass_of_methodNamed B.named
  have hlocks := B.notSynchronized
  have hl := lv_entry ([.ref m0, .int p_, .int d, .int to]) (n := 5) (Nat.le_of_ble_eq_true rfl)
  rw [lg_entry_eq]
  generalize (lg_sl ([.ref m0, .int p_, .int d, .int to]) ++ List.replicate (5 - (lg_sl ([.ref m0, .int p_, .int d, .int to])).length) Slot.unset).toArray = ls at hl ⊢
  replace hl : lv_has ls 5 [(0, .ref m0), (1, .int p_), (2, .int d), (3, .int to)] := hl
  refine lv_iload_n hx hb dX8_mayMake_0 rfl (lv_at hl 2 rfl) ?_
  refine lv_if_ne (tgt := 6) hx hb dX8_mayMake_1 (by decide) (fun c_1 => ?_) (fun c_1 => ?_)
  · have fc_1 : d.toInt ≠ 0 := zf_ne c_1 rfl (by decide)
    refine lv_aload_n hx hb dX8_mayMake_6 rfl (lv_at hl 0 rfl) ?_
    refine lv_iload_n hx hb dX8_mayMake_7 rfl (lv_at hl 1 rfl) ?_
    refine lv_iload_n hx hb dX8_mayMake_8 rfl (lv_at hl 2 rfl) ?_
    refine zc_V (As := [.int p_, .int d]) (rest := []) ⟨hx, hb, hml, hown, hts⟩ (c_M_ways l D cI cJ cZ cP cS po m0 mrf mki mpa mta mla msl mco mhe mso msi msh mce mca mwo mnu mte mwa mke mma mth mtr (npu) (nte) (nat_) (nde) (nto) (nse) (nhu) (nga) (nsd) (nfa) (nba) (npl) (nen) (nnu) (nwr) (nra) (nik) gki gpa (p_) (d) hy0 hy1 hy2 hy3 hy4 hy5 hy6 hy7 hy8 hy9 hy10 hy11 hy12 hy13 hy14 hy15 hp_gki hp_gpa) (cwV 2 hts gX8_mayMake_X8_ways rfl rfl rfl ⟨rfl, dh_X8_ways⟩ ⟨Nat.le_of_ble_eq_true rfl, Nat.le_of_ble_eq_true rfl⟩) hK hN hZ hP (hP.sub [0, 1, 2] rfl) (va_recv (q := (RX8, TX8, 38)) hK hP (ci := 8) (q0 := 0) rfl rfl) rfl hl.1 rfl (Nat.le_of_ble_eq_true rfl) dX8_mayMake_9 ⟨Nat.le_of_ble_eq_true rfl, Nat.le_of_ble_eq_true rfl⟩ (fun r_2 hr_2 => ?_)
    obtain ⟨g_3, g_4⟩ := hr_2
    refine lv_istore (lv' := [(4, .int r_2), (0, .ref m0), (1, .int p_), (2, .int d), (3, .int to)]) hx hb dX8_mayMake_12 hl (by decide) rfl (fun ls hl => ?_)
    refine lv_iload hx hb dX8_mayMake_14 (lv_at hl 0 rfl) ?_
    refine lv_if_le (tgt := 30) hx hb dX8_mayMake_16 (by decide) (fun c_5 => ?_) (fun c_5 => ?_)
    · have fc_5 : r_2.toInt ≤ 0 := zf_le c_5 rfl (by decide)
      refine lv_iload hx hb dX8_mayMake_30 (lv_at hl 0 rfl) ?_
      refine lv_bipush (v := 12) hx hb dX8_mayMake_32 (by decide) ?_
      refine lv_icmp_ge (tgt := 52) hx hb dX8_mayMake_34 (by decide) (fun c_6 => ?_) (fun c_6 => ?_)
      · exfalso; have fc_6 : 12 ≤ r_2.toInt := zf_le c_6 (by decide) rfl; omega
      · have fc_6 : r_2.toInt < 12 := zf_nle c_6 (by decide) rfl
        refine lv_aload_n hx hb dX8_mayMake_37 rfl (lv_at hl 1 rfl) ?_
        refine lv_iload_n hx hb dX8_mayMake_38 rfl (lv_at hl 2 rfl) ?_
        refine lv_iload_n hx hb dX8_mayMake_39 rfl (lv_at hl 3 rfl) ?_
        refine lv_iconst (v := 0) hx hb dX8_mayMake_40 (by decide) ?_
        refine zc_V (As := [.int p_, .int d, .int 0]) (rest := []) ⟨hx, hb, hml, hown, hts⟩ (c_M_deep_any l D cI cJ cZ cP cS po m0 mrf mki mpa mta mla msl mco mhe mso msi msh mce mca mwo mnu mte mwa mke mma mth mtr (npu) (nte) (nat_) (nde) (nto) (nse) (nhu) (nga) (nsd) (nfa) (nba) (npl) (nen) (nnu) (nwr) (nra) (nik) gki gpa (p_) (d) (0) hy0 hy1 hy2 hy3 hy4 hy5 hy6 hy7 hy8 hy9 hy10 hy11 hy12 hy13 hy14 hy15 hp_gki hp_gpa) (cwV 3 hts gX8_mayMake_X8_deep rfl rfl rfl ⟨rfl, dh_X8_deep⟩ ⟨Nat.le_of_ble_eq_true rfl, Nat.le_of_ble_eq_true rfl⟩) hK hN hZ hP (hP.sub [0, 1, 2] rfl) (va_recv (q := (RX8, TX8, 38)) hK hP (ci := 8) (q0 := 0) rfl rfl) rfl hl.1 rfl (Nat.le_of_ble_eq_true rfl) dX8_mayMake_41 ⟨Nat.le_of_ble_eq_true rfl, Nat.le_of_ble_eq_true rfl⟩ (fun r_7 hr_7 => ?_)
        refine lv_iload_n hx hb dX8_mayMake_44 rfl (lv_at hl 4 rfl) ?_
        refine lv_icmp_ne (tgt := 52) hx hb dX8_mayMake_45 (by decide) (fun c_8 => ?_) (fun c_8 => ?_)
        · have fc_8 : r_7.toInt ≠ to.toInt := zf_ne c_8 rfl rfl
          refine lv_iconst (v := 0) hx hb dX8_mayMake_52 (by decide) ?_
          exact W.zret (v := 0) hx hb hr (by decide) (fun t ht hW => ⟨0, rfl, ⟨by decide, by decide⟩, ht⟩) (fun q hq => by cases hq) dX8_mayMake_53
        · have fc_8 : r_7.toInt = to.toInt := zf_eq c_8 rfl rfl
          refine lv_iconst (v := 1) hx hb dX8_mayMake_48 (by decide) ?_
          refine lv_goto (tgt := 53) hx hb dX8_mayMake_49 (by decide) ?_
          exact W.zret (v := 1) hx hb hr (by decide) (fun t ht hW => ⟨1, rfl, ⟨by decide, by decide⟩, ht⟩) (fun q hq => by cases hq) dX8_mayMake_53
    · have fc_5 : 0 < r_2.toInt := zf_nle c_5 rfl (by decide)
      refine lv_aload_n hx hb dX8_mayMake_19 rfl (lv_at hl 1 rfl) ?_
      refine lv_iload_n hx hb dX8_mayMake_20 rfl (lv_at hl 2 rfl) ?_
      refine lv_iload_n hx hb dX8_mayMake_21 rfl (lv_at hl 3 rfl) ?_
      refine lv_iconst (v := 1) hx hb dX8_mayMake_22 (by decide) ?_
      refine zc_V (As := [.int p_, .int d, .int 1]) (rest := []) ⟨hx, hb, hml, hown, hts⟩ (c_M_deep_any l D cI cJ cZ cP cS po m0 mrf mki mpa mta mla msl mco mhe mso msi msh mce mca mwo mnu mte mwa mke mma mth mtr (npu) (nte) (nat_) (nde) (nto) (nse) (nhu) (nga) (nsd) (nfa) (nba) (npl) (nen) (nnu) (nwr) (nra) (nik) gki gpa (p_) (d) (1) hy0 hy1 hy2 hy3 hy4 hy5 hy6 hy7 hy8 hy9 hy10 hy11 hy12 hy13 hy14 hy15 hp_gki hp_gpa) (cwV 3 hts gX8_mayMake_X8_deep rfl rfl rfl ⟨rfl, dh_X8_deep⟩ ⟨Nat.le_of_ble_eq_true rfl, Nat.le_of_ble_eq_true rfl⟩) hK hN hZ hP (hP.sub [0, 1, 2] rfl) (va_recv (q := (RX8, TX8, 38)) hK hP (ci := 8) (q0 := 0) rfl rfl) rfl hl.1 rfl (Nat.le_of_ble_eq_true rfl) dX8_mayMake_23 ⟨Nat.le_of_ble_eq_true rfl, Nat.le_of_ble_eq_true rfl⟩ (fun r_9 hr_9 => ?_)
      refine lv_iload_n hx hb dX8_mayMake_26 rfl (lv_at hl 4 rfl) ?_
      refine lv_icmp_eq (tgt := 48) hx hb dX8_mayMake_27 (by decide) (fun c_10 => ?_) (fun c_10 => ?_)
      · have fc_10 : r_9.toInt = to.toInt := zf_eq c_10 rfl rfl
        refine lv_iconst (v := 1) hx hb dX8_mayMake_48 (by decide) ?_
        refine lv_goto (tgt := 53) hx hb dX8_mayMake_49 (by decide) ?_
        exact W.zret (v := 1) hx hb hr (by decide) (fun t ht hW => ⟨1, rfl, ⟨by decide, by decide⟩, ht⟩) (fun q hq => by cases hq) dX8_mayMake_53
      · have fc_10 : r_9.toInt ≠ to.toInt := zf_ne c_10 rfl rfl
        refine lv_iload hx hb dX8_mayMake_30 (lv_at hl 0 rfl) ?_
        refine lv_bipush (v := 12) hx hb dX8_mayMake_32 (by decide) ?_
        refine lv_icmp_ge (tgt := 52) hx hb dX8_mayMake_34 (by decide) (fun c_11 => ?_) (fun c_11 => ?_)
        · have fc_11 : 12 ≤ r_2.toInt := zf_le c_11 (by decide) rfl
          refine lv_iconst (v := 0) hx hb dX8_mayMake_52 (by decide) ?_
          exact W.zret (v := 0) hx hb hr (by decide) (fun t ht hW => ⟨0, rfl, ⟨by decide, by decide⟩, ht⟩) (fun q hq => by cases hq) dX8_mayMake_53
        · have fc_11 : r_2.toInt < 12 := zf_nle c_11 (by decide) rfl
          refine lv_aload_n hx hb dX8_mayMake_37 rfl (lv_at hl 1 rfl) ?_
          refine lv_iload_n hx hb dX8_mayMake_38 rfl (lv_at hl 2 rfl) ?_
          refine lv_iload_n hx hb dX8_mayMake_39 rfl (lv_at hl 3 rfl) ?_
          refine lv_iconst (v := 0) hx hb dX8_mayMake_40 (by decide) ?_
          refine zc_V (As := [.int p_, .int d, .int 0]) (rest := []) ⟨hx, hb, hml, hown, hts⟩ (c_M_deep_any l D cI cJ cZ cP cS po m0 mrf mki mpa mta mla msl mco mhe mso msi msh mce mca mwo mnu mte mwa mke mma mth mtr (npu) (nte) (nat_) (nde) (nto) (nse) (nhu) (nga) (nsd) (nfa) (nba) (npl) (nen) (nnu) (nwr) (nra) (nik) gki gpa (p_) (d) (0) hy0 hy1 hy2 hy3 hy4 hy5 hy6 hy7 hy8 hy9 hy10 hy11 hy12 hy13 hy14 hy15 hp_gki hp_gpa) (cwV 3 hts gX8_mayMake_X8_deep rfl rfl rfl ⟨rfl, dh_X8_deep⟩ ⟨Nat.le_of_ble_eq_true rfl, Nat.le_of_ble_eq_true rfl⟩) hK hN hZ hP (hP.sub [0, 1, 2] rfl) (va_recv (q := (RX8, TX8, 38)) hK hP (ci := 8) (q0 := 0) rfl rfl) rfl hl.1 rfl (Nat.le_of_ble_eq_true rfl) dX8_mayMake_41 ⟨Nat.le_of_ble_eq_true rfl, Nat.le_of_ble_eq_true rfl⟩ (fun r_12 hr_12 => ?_)
          refine lv_iload_n hx hb dX8_mayMake_44 rfl (lv_at hl 4 rfl) ?_
          refine lv_icmp_ne (tgt := 52) hx hb dX8_mayMake_45 (by decide) (fun c_13 => ?_) (fun c_13 => ?_)
          · have fc_13 : r_12.toInt ≠ to.toInt := zf_ne c_13 rfl rfl
            refine lv_iconst (v := 0) hx hb dX8_mayMake_52 (by decide) ?_
            exact W.zret (v := 0) hx hb hr (by decide) (fun t ht hW => ⟨0, rfl, ⟨by decide, by decide⟩, ht⟩) (fun q hq => by cases hq) dX8_mayMake_53
          · have fc_13 : r_12.toInt = to.toInt := zf_eq c_13 rfl rfl
            refine lv_iconst (v := 1) hx hb dX8_mayMake_48 (by decide) ?_
            refine lv_goto (tgt := 53) hx hb dX8_mayMake_49 (by decide) ?_
            exact W.zret (v := 1) hx hb hr (by decide) (fun t ht hW => ⟨1, rfl, ⟨by decide, by decide⟩, ht⟩) (fun q hq => by cases hq) dX8_mayMake_53
  · have fc_1 : d.toInt = 0 := zf_eq c_1 rfl (by decide)
    refine lv_iconst (v := 0) hx hb dX8_mayMake_4 (by decide) ?_
    exact W.zret (v := 0) hx hb hr (by decide) (fun t ht hW => ⟨0, rfl, ⟨by decide, by decide⟩, ht⟩) (fun q hq => by cases hq) dX8_mayMake_5
theorem hi_X8_meant_8 : ∀ w ∈ u_ws RX8 TX8 38, w ∈ wsX8_meant := fun w h => (gl_X8_meant_X80 w h).1
set_option maxHeartbeats 4000000 in
set_option maxRecDepth 100000 in
theorem c_M_meant (l : Launch) (D : va_G) (cI cJ cZ cP cS : ClassId) (po : zPool) (m0 mrf mki mpa mta mla msl mco mhe mso msi msh mce mca mwo mnu mte mwa mke mma mth mtr : Nat) (npu nte nat_ nde nto nse nhu nga nsd nfa nba npl nen nnu nwr nra nik : Int32) (grf ghe gsi gki gpa : Nat → Int32) (gce : Nat → Int64) (s_ n i : Int32) (hy0 : 0 ≤ npu.toInt) (hy1 : npu.toInt ≤ 8) (hy2 : 4 ≤ nte.toInt) (hy3 : nte.toInt ≤ 40) (hy4 : 0 ≤ nat_.toInt) (hy5 : nat_.toInt ≤ 40) (hy6 : 0 ≤ nde.toInt) (hy7 : nde.toInt ≤ 24) (hy8 : 0 ≤ nhu.toInt) (hy9 : nhu.toInt ≤ 9) (hy10 : 0 ≤ nra.toInt) (hy11 : nra.toInt ≤ 2000) (hy12 : 0 ≤ nik.toInt) (hy13 : nik.toInt ≤ 1) (hp_ghe : zRg ghe (0) 2) (hp_gsi : zRg gsi (0) 160) (hp_gki : zRg gki (0) 6) (hp_gpa : zRg gpa (0) 9) (hpz : Nat) : Met l yX8_meant wsX8_meant ({ frames := 3, cells := 0, slots := 0, locals := 69 }) (va_Pc [.ref m0, .int s_, .int n, .int i] (zW D (zKT cI cJ cZ cP cS) po [(zMO m0 npu nte nat_ nde nto nse nhu nga nsd nfa mrf mki mpa mta mla msl mco mhe mso msi msh mce mca mwo mnu mte nba npl nen nnu nwr mwa mke mma mth mtr nra nik), (mrf, .inl (cI, 8, .inl grf)), (mhe, .inl (cI, 8, .inl ghe)), (msi, .inl (cI, 8, .inl gsi)), (mce, .inl (cJ, 1280, .inr (.inl gce))), (mki, .inl (cI, 8, .inl gki)), (mpa, .inl (cI, 8, .inl gpa))] hpz)) (va_Qi (fun (r : Int32) (grf2 : (Nat → Int32)) => True) (zB D [(zMO m0 npu nte nat_ nde nto nse nhu nga nsd nfa mrf mki mpa mta mla msl mco mhe mso msi msh mce mca mwo mnu mte nba npl nen nnu nwr mwa mke mma mth mtr nra nik), (mrf, .inl (cI, 8, .inl grf)), (mhe, .inl (cI, 8, .inl ghe)), (msi, .inl (cI, 8, .inl gsi)), (mce, .inl (cJ, 1280, .inr (.inl gce))), (mki, .inl (cI, 8, .inl gki)), (mpa, .inl (cI, 8, .inl gpa))] hpz (fun (grf2 : Nat → Int32) => [(zMO m0 npu nte nat_ nde nto nse nhu nga nsd nfa mrf mki mpa mta mla msl mco mhe mso msi msh mce mca mwo mnu mte nba npl nen nnu nwr mwa mke mma mth mtr nra nik), (mrf, .inl (cI, 8, .inl grf2)), (mhe, .inl (cI, 8, .inl ghe)), (msi, .inl (cI, 8, .inl gsi)), (mce, .inl (cJ, 1280, .inr (.inl gce))), (mki, .inl (cI, 8, .inl gki)), (mpa, .inl (cI, 8, .inl gpa))])) (va_A [(zMO m0 npu nte nat_ nde nto nse nhu nga nsd nfa mrf mki mpa mta mla msl mco mhe mso msi msh mce mca mwo mnu mte nba npl nen nnu nwr mwa mke mma mth mtr nra nik), (mrf, .inl (cI, 8, .inl grf)), (mhe, .inl (cI, 8, .inl ghe)), (msi, .inl (cI, 8, .inl gsi)), (mce, .inl (cJ, 1280, .inr (.inl gce))), (mki, .inl (cI, 8, .inl gki)), (mpa, .inl (cI, 8, .inl gpa))] hpz)) 0 0 (va_A [(zMO m0 npu nte nat_ nde nto nse nhu nga nsd nfa mrf mki mpa mta mla msl mco mhe mso msi msh mce mca mwo mnu mte nba npl nen nnu nwr mwa mke mma mth mtr nra nik), (mrf, .inl (cI, 8, .inl grf)), (mhe, .inl (cI, 8, .inl ghe)), (msi, .inl (cI, 8, .inl gsi)), (mce, .inl (cJ, 1280, .inr (.inl gce))), (mki, .inl (cI, 8, .inl gki)), (mpa, .inl (cI, 8, .inl gpa))] hpz) := by
  refine Met.ofW (cc := cX8_meant) (maxL := 12) (ret := (some .int)) (by decide) rfl ?_
  intro p e s m args below meth c s₁ B hml hv
  obtain ⟨rfl, hsz, hP, hK, hD0, hN, hZ⟩ := hv
  have hx := B.exec
  have hb := B.bytes
  have hr := B.returns
  have hts := atoms_spec (ws := wsX8_meant) B.pre
  have hown : s.vm.findClass RX8 = some m.cls := findClass_of_methodNamed B.named
  have hlocks := B.notSynchronized
  subst hsz
  have hD := hD0.self (sz := s.heap.size)
  have hA := zA_of hD
  have hl := lv_entry ([.ref m0, .int s_, .int n, .int i]) (n := 12) (Nat.le_of_ble_eq_true rfl)
  rw [lg_entry_eq]
  generalize (lg_sl ([.ref m0, .int s_, .int n, .int i]) ++ List.replicate (12 - (lg_sl ([.ref m0, .int s_, .int n, .int i])).length) Slot.unset).toArray = ls at hl ⊢
  replace hl : lv_has ls 12 [(0, .ref m0), (1, .int s_), (2, .int n), (3, .int i)] := hl
  refine zw_begin hP hD (fun H locs hP1 hS => ?_)
  clear hP
  have hP := hP1
  clear hP1
  refine zcut (T := fun K => ∀ (H : Heap) (locs : List Loc) (ls : Array Slot) (hP : va_P D vwCl [(zMO m0 npu nte nat_ nde nto nse nhu nga nsd nfa mrf mki mpa mta mla msl mco mhe mso msi msh mce mca mwo mnu mte nba npl nen nnu nwr mwa mke mma mth mtr nra nik), (mrf, .inl (cI, 8, .inl grf)), (mhe, .inl (cI, 8, .inl ghe)), (msi, .inl (cI, 8, .inl gsi)), (mce, .inl (cJ, 1280, .inr (.inl gce))), (mki, .inl (cI, 8, .inl gki)), (mpa, .inl (cI, 8, .inl gpa))] H) (hD : va_D (va_A [(zMO m0 npu nte nat_ nde nto nse nhu nga nsd nfa mrf mki mpa mta mla msl mco mhe mso msi msh mce mca mwo mnu mte nba npl nen nnu nwr mwa mke mma mth mtr nra nik), (mrf, .inl (cI, 8, .inl grf)), (mhe, .inl (cI, 8, .inl ghe)), (msi, .inl (cI, 8, .inl gsi)), (mce, .inl (cJ, 1280, .inr (.inl gce))), (mki, .inl (cI, 8, .inl gki)), (mpa, .inl (cI, 8, .inl gpa))] s.heap.size) [(zMO m0 npu nte nat_ nde nto nse nhu nga nsd nfa mrf mki mpa mta mla msl mco mhe mso msi msh mce mca mwo mnu mte nba npl nen nnu nwr mwa mke mma mth mtr nra nik), (mrf, .inl (cI, 8, .inl grf)), (mhe, .inl (cI, 8, .inl ghe)), (msi, .inl (cI, 8, .inl gsi)), (mce, .inl (cJ, 1280, .inr (.inl gce))), (mki, .inl (cI, 8, .inl gki)), (mpa, .inl (cI, 8, .inl gpa))]) (hS : va_S (va_A [(zMO m0 npu nte nat_ nde nto nse nhu nga nsd nfa mrf mki mpa mta mla msl mco mhe mso msi msh mce mca mwo mnu mte nba npl nen nnu nwr mwa mke mma mth mtr nra nik), (mrf, .inl (cI, 8, .inl grf)), (mhe, .inl (cI, 8, .inl ghe)), (msi, .inl (cI, 8, .inl gsi)), (mce, .inl (cJ, 1280, .inr (.inl gce))), (mki, .inl (cI, 8, .inl gki)), (mpa, .inl (cI, 8, .inl gpa))] s.heap.size) s.heap H locs) (hl : lv_has ls 12 [(0, .ref m0), (1, .int s_), (2, .int n), (3, .int i)]) (hf132_0 : (0 ≤ s_.toInt ∧ s_.toInt ≤ 7) ∧ 1 ≤ n.toInt ∧ n.toInt ≤ 20), K H locs ls) (pc := 132) ?_ (fun hcut132 => ?_)
  · intro H locs ls hP hD hS hl hf132_0
    refine lv_iconst (v := 1) hx hb dX8_meant_132 (by decide) ?_
    refine lv_istore (lv' := [(5, .int 1), (0, .ref m0), (1, .int s_), (2, .int n), (3, .int i)]) hx hb dX8_meant_133 hl (by decide) rfl (fun ls hl => ?_)
    refine lv_aload_n hx hb dX8_meant_135 rfl (lv_at hl 1 rfl) ?_
    refine va_get (D := D) (ci := 8) (v := .int nde) (C := RX8) (T := TX8) (N := 38) hx hb hts hi_X8_meant_8 hown hK hP 0 rfl rfl 3 (by decide) (hts (.fieldLink RX8 115 "TheLiningsInItModel" "depth" "I") (List.mem_of_getElem? (i := 2) rfl)) (fun _ h9 => h9) rfl dX8_meant_136 ?_
    refine lv_istore (lv' := [(6, .int nde), (5, .int 1), (0, .ref m0), (1, .int s_), (2, .int n), (3, .int i)]) hx hb dX8_meant_139 hl (by decide) rfl (fun ls hl => ?_)
    refine lv_iconst (v := (-1)) hx hb dX8_meant_141 (by decide) ?_
    refine lv_istore (lv' := [(7, .int (-1)), (6, .int nde), (5, .int 1), (0, .ref m0), (1, .int s_), (2, .int n), (3, .int i)]) hx hb dX8_meant_142 hl (by decide) rfl (fun ls hl => ?_)
    refine lv_iconst (v := 0) hx hb dX8_meant_144 (by decide) ?_
    refine lv_istore (lv' := [(8, .int 0), (7, .int (-1)), (6, .int nde), (5, .int 1), (0, .ref m0), (1, .int s_), (2, .int n), (3, .int i)]) hx hb dX8_meant_145 hl (by decide) rfl (fun ls hl => ?_)
    obtain ⟨i_147, hi_147⟩ : ∃ i : Int32, i = 0 := ⟨_, rfl⟩
    replace hl : lv_has ls 12 [(8, .int i_147), (7, .int (-1)), (6, .int nde), (5, .int 1), (0, .ref m0), (1, .int s_), (2, .int n), (3, .int i)] := by rw [hi_147]; exact lv_sub hl [0, 1, 2, 3, 4, 5, 6, 7] rfl
    have h1i_147 : i_147.toInt = 0 := by rw [hi_147]; decide
    obtain ⟨nfu, hni_147⟩ : ∃ nq9 : Nat, n.toInt ≤ i_147.toInt + (nq9 : Int) := ⟨((n.toInt : Int) - 0).toNat, by omega⟩
    have hloi_147 : 0 ≤ i_147.toInt := by omega
    obtain ⟨v_1, hv_1⟩ : ∃ g : Int32, g = 1 := ⟨_, rfl⟩
    obtain ⟨v_2, hv_2⟩ : ∃ g : Int32, g = nde := ⟨_, rfl⟩
    obtain ⟨v_3, hv_3⟩ : ∃ g : Int32, g = (-1) := ⟨_, rfl⟩
    replace hl : lv_has ls 12 [(8, .int i_147), (7, .int v_3), (6, .int v_2), (5, .int v_1), (0, .ref m0), (1, .int s_), (2, .int n), (3, .int i)] := by rw [hv_1, hv_2, hv_3]; exact hl
    clear h1i_147 hi_147 hv_1 hv_2 hv_3
    skip
    revert hni_147
    revert hloi_147
    revert hl
    revert hS
    revert hD
    revert hP
    revert ls
    revert locs
    revert H
    revert v_3
    revert v_2
    revert v_1
    revert i_147
    induction nfu with
    | zero =>
      intro i_147 v_1 v_2 v_3 H locs ls hP hD hS hl hloi_147 hni_147
      have hzi_147 : n.toInt ≤ i_147.toInt := by omega
      refine lv_iload hx hb dX8_meant_147 (lv_at hl 0 rfl) ?_
      refine lv_iload_n hx hb dX8_meant_149 rfl (lv_at hl 6 rfl) ?_
      refine lv_icmp_ge (tgt := 252) hx hb dX8_meant_150 (by decide) (fun c_4 => ?_) (fun c_4 => ?_)
      · have fc_4 : n.toInt ≤ i_147.toInt := zf_le c_4 rfl rfl
        refine lv_iload_n hx hb dX8_meant_252 rfl (lv_at hl 7 rfl) ?_
        refine lv_iconst (v := (-1)) hx hb dX8_meant_253 (by decide) ?_
        refine lv_icmp_ne (tgt := 260) hx hb dX8_meant_254 (by decide) (fun c_5 => ?_) (fun c_5 => ?_)
        · have fc_5 : i.toInt ≠ (-1) := zf_ne c_5 rfl (by decide)
          refine lv_iload hx hb dX8_meant_260 (lv_at hl 3 rfl) ?_
          refine lv_if_ne (tgt := 274) hx hb dX8_meant_262 (by decide) (fun c_6 => ?_) (fun c_6 => ?_)
          · have fc_6 : v_1.toInt ≠ 0 := zf_ne c_6 rfl (by decide)
            refine lv_iload hx hb dX8_meant_274 (lv_at hl 1 rfl) ?_
            exact W.iret (v := v_3) hx hb hr (fun t ht hW => ⟨⟨v_3, grf, rfl, trivial, zRet ht hP hD [0, 1, 2, 3, 4, 5, 6] (by decide) rfl⟩, hS.F ht⟩) hS.2.2 dX8_meant_276
          · have fc_6 : v_1.toInt = 0 := zf_eq c_6 rfl (by decide)
            refine lv_aload_n hx hb dX8_meant_265 rfl (lv_at hl 4 rfl) ?_
            refine lv_bipush (v := (-5)) hx hb dX8_meant_266 (by decide) ?_
            skip
            refine zw_V (As := [.int (-5)]) (rest := []) (wr := [(mhe, .inl (cI, 8, .inl ghe)), (msi, .inl (cI, 8, .inl gsi)), (mce, .inl (cJ, 1280, .inr (.inl gce))), (mki, .inl (cI, 8, .inl gki)), (mpa, .inl (cI, 8, .inl gpa))]) ⟨hx, hb, hml, hown, hts⟩ (c_M_no_5 l D cI cJ cZ cP cS po m0 mrf mki mpa mta mla msl mco mhe mso msi msh mce mca mwo mnu mte mwa mke mma mth mtr (npu) (nte) (nat_) (nde) (nto) (nse) (nhu) (nga) (nsd) (nfa) (nba) (npl) (nen) (nnu) (nwr) (nra) (nik) grf hy0 hy1 hy2 hy3 hy4 hy5 hy6 hy7 hy8 hy9 hy10 hy11 hy12 hy13 H.size) (cwV 1 hts gX8_meant_X8_no rfl rfl rfl ⟨rfl, dh_X8_no⟩ ⟨Nat.le_of_ble_eq_true rfl, Nat.le_of_ble_eq_true rfl⟩) hK hN (hZ.kept hS) hP hD hS hA [0, 1] [2, 3, 4, 5, 6] rfl rfl (by decide) (by decide) (by decide) (va_recv (q := (RX8, TX8, 38)) hK hP (ci := 8) (q0 := 0) rfl rfl) rfl hl.1 rfl (Nat.le_of_ble_eq_true rfl) dX8_meant_268 ⟨Nat.le_of_ble_eq_true rfl, Nat.le_of_ble_eq_true rfl⟩ (fun r_7 u_8 H locs hr_7 hP hD hS => ?_)
            obtain ⟨q_9, rfl⟩ : ∃ z, z = u_8 := ⟨_, rfl⟩
            have h9R := zRe (ws' := [(mhe, .inl (cI, 8, .inl ghe)), (msi, .inl (cI, 8, .inl gsi)), (mce, .inl (cJ, 1280, .inr (.inl gce))), (mki, .inl (cI, 8, .inl gki)), (mpa, .inl (cI, 8, .inl gpa)), (zMO m0 npu nte nat_ nde nto nse nhu nga nsd nfa mrf mki mpa mta mla msl mco mhe mso msi msh mce mca mwo mnu mte nba npl nen nnu nwr mwa mke mma mth mtr nra nik), (mrf, .inl (cI, 8, .inl q_9))]) hP hD rfl
            clear hP hD
            obtain ⟨hP, hD⟩ := h9R
            obtain rfl := hr_7
            refine lv_goto (tgt := 276) hx hb dX8_meant_271 (by decide) ?_
            exact W.iret (v := (-5)) hx hb hr (fun t ht hW => ⟨⟨(-5), q_9, rfl, trivial, zRet ht hP hD [5, 6, 0, 1, 2, 3, 4] (by decide) rfl⟩, hS.F ht⟩) hS.2.2 dX8_meant_276
        · have fc_5 : i.toInt = (-1) := zf_eq c_5 rfl (by decide)
          refine lv_iload hx hb dX8_meant_257 (lv_at hl 3 rfl) ?_
          exact W.iret (v := v_1) hx hb hr (fun t ht hW => ⟨⟨v_1, grf, rfl, trivial, zRet ht hP hD [0, 1, 2, 3, 4, 5, 6] (by decide) rfl⟩, hS.F ht⟩) hS.2.2 dX8_meant_259
      · exfalso; have fc_4 : i_147.toInt < n.toInt := zf_nle c_4 rfl rfl; omega
    | succ nfu ih =>
      intro i_147 v_1 v_2 v_3 H locs ls hP hD hS hl hloi_147 hni_147
      refine lv_iload hx hb dX8_meant_147 (lv_at hl 0 rfl) ?_
      refine lv_iload_n hx hb dX8_meant_149 rfl (lv_at hl 6 rfl) ?_
      refine lv_icmp_ge (tgt := 252) hx hb dX8_meant_150 (by decide) (fun c_10 => ?_) (fun c_10 => ?_)
      · have fc_10 : n.toInt ≤ i_147.toInt := zf_le c_10 rfl rfl
        refine lv_iload_n hx hb dX8_meant_252 rfl (lv_at hl 7 rfl) ?_
        refine lv_iconst (v := (-1)) hx hb dX8_meant_253 (by decide) ?_
        refine lv_icmp_ne (tgt := 260) hx hb dX8_meant_254 (by decide) (fun c_11 => ?_) (fun c_11 => ?_)
        · have fc_11 : i.toInt ≠ (-1) := zf_ne c_11 rfl (by decide)
          refine lv_iload hx hb dX8_meant_260 (lv_at hl 3 rfl) ?_
          refine lv_if_ne (tgt := 274) hx hb dX8_meant_262 (by decide) (fun c_12 => ?_) (fun c_12 => ?_)
          · have fc_12 : v_1.toInt ≠ 0 := zf_ne c_12 rfl (by decide)
            refine lv_iload hx hb dX8_meant_274 (lv_at hl 1 rfl) ?_
            exact W.iret (v := v_3) hx hb hr (fun t ht hW => ⟨⟨v_3, grf, rfl, trivial, zRet ht hP hD [0, 1, 2, 3, 4, 5, 6] (by decide) rfl⟩, hS.F ht⟩) hS.2.2 dX8_meant_276
          · have fc_12 : v_1.toInt = 0 := zf_eq c_12 rfl (by decide)
            refine lv_aload_n hx hb dX8_meant_265 rfl (lv_at hl 4 rfl) ?_
            refine lv_bipush (v := (-5)) hx hb dX8_meant_266 (by decide) ?_
            skip
            refine zw_V (As := [.int (-5)]) (rest := []) (wr := [(mhe, .inl (cI, 8, .inl ghe)), (msi, .inl (cI, 8, .inl gsi)), (mce, .inl (cJ, 1280, .inr (.inl gce))), (mki, .inl (cI, 8, .inl gki)), (mpa, .inl (cI, 8, .inl gpa))]) ⟨hx, hb, hml, hown, hts⟩ (c_M_no_5 l D cI cJ cZ cP cS po m0 mrf mki mpa mta mla msl mco mhe mso msi msh mce mca mwo mnu mte mwa mke mma mth mtr (npu) (nte) (nat_) (nde) (nto) (nse) (nhu) (nga) (nsd) (nfa) (nba) (npl) (nen) (nnu) (nwr) (nra) (nik) grf hy0 hy1 hy2 hy3 hy4 hy5 hy6 hy7 hy8 hy9 hy10 hy11 hy12 hy13 H.size) (cwV 1 hts gX8_meant_X8_no rfl rfl rfl ⟨rfl, dh_X8_no⟩ ⟨Nat.le_of_ble_eq_true rfl, Nat.le_of_ble_eq_true rfl⟩) hK hN (hZ.kept hS) hP hD hS hA [0, 1] [2, 3, 4, 5, 6] rfl rfl (by decide) (by decide) (by decide) (va_recv (q := (RX8, TX8, 38)) hK hP (ci := 8) (q0 := 0) rfl rfl) rfl hl.1 rfl (Nat.le_of_ble_eq_true rfl) dX8_meant_268 ⟨Nat.le_of_ble_eq_true rfl, Nat.le_of_ble_eq_true rfl⟩ (fun r_13 u_14 H locs hr_13 hP hD hS => ?_)
            obtain ⟨q_15, rfl⟩ : ∃ z, z = u_14 := ⟨_, rfl⟩
            have h9R := zRe (ws' := [(mhe, .inl (cI, 8, .inl ghe)), (msi, .inl (cI, 8, .inl gsi)), (mce, .inl (cJ, 1280, .inr (.inl gce))), (mki, .inl (cI, 8, .inl gki)), (mpa, .inl (cI, 8, .inl gpa)), (zMO m0 npu nte nat_ nde nto nse nhu nga nsd nfa mrf mki mpa mta mla msl mco mhe mso msi msh mce mca mwo mnu mte nba npl nen nnu nwr mwa mke mma mth mtr nra nik), (mrf, .inl (cI, 8, .inl q_15))]) hP hD rfl
            clear hP hD
            obtain ⟨hP, hD⟩ := h9R
            obtain rfl := hr_13
            refine lv_goto (tgt := 276) hx hb dX8_meant_271 (by decide) ?_
            exact W.iret (v := (-5)) hx hb hr (fun t ht hW => ⟨⟨(-5), q_15, rfl, trivial, zRet ht hP hD [5, 6, 0, 1, 2, 3, 4] (by decide) rfl⟩, hS.F ht⟩) hS.2.2 dX8_meant_276
        · have fc_11 : i.toInt = (-1) := zf_eq c_11 rfl (by decide)
          refine lv_iload hx hb dX8_meant_257 (lv_at hl 3 rfl) ?_
          exact W.iret (v := v_1) hx hb hr (fun t ht hW => ⟨⟨v_1, grf, rfl, trivial, zRet ht hP hD [0, 1, 2, 3, 4, 5, 6] (by decide) rfl⟩, hS.F ht⟩) hS.2.2 dX8_meant_259
      · have fc_10 : i_147.toInt < n.toInt := zf_nle c_10 rfl rfl
        refine lv_aload_n hx hb dX8_meant_153 rfl (lv_at hl 4 rfl) ?_
        refine lv_iload_n hx hb dX8_meant_154 rfl (lv_at hl 5 rfl) ?_
        refine lv_iload hx hb dX8_meant_155 (lv_at hl 0 rfl) ?_
        refine zc_V (As := [.int s_, .int i_147]) (rest := []) ⟨hx, hb, hml, hown, hts⟩ (c_M_intAt l D cI cJ cZ cP cS po m0 mrf mki mpa mta mla msl mco mhe mso msi msh mce mca mwo mnu mte mwa mke mma mth mtr (npu) (nte) (nat_) (nde) (nto) (nse) (nhu) (nga) (nsd) (nfa) (nba) (npl) (nen) (nnu) (nwr) (nra) (nik) gce (s_) (i_147) hy0 hy1 hy2 hy3 hy4 hy5 hy6 hy7 hy8 hy9 hy10 hy11 hy12 hy13 (by omega) (by omega) (by omega) (by omega)) (cwV 2 hts gX8_meant_X8_intAt rfl rfl rfl ⟨rfl, dh_X8_intAt⟩ ⟨Nat.le_of_ble_eq_true rfl, Nat.le_of_ble_eq_true rfl⟩) hK hN (hZ.kept hS) hP (hP.sub [0, 4] rfl) (va_recv (q := (RX8, TX8, 38)) hK hP (ci := 8) (q0 := 0) rfl rfl) rfl hl.1 rfl (Nat.le_of_ble_eq_true rfl) dX8_meant_157 ⟨Nat.le_of_ble_eq_true rfl, Nat.le_of_ble_eq_true rfl⟩ (fun r_16 hr_16 => ?_)
        refine lv_istore (lv' := [(9, .int r_16), (8, .int i_147), (7, .int v_3), (6, .int v_2), (5, .int v_1), (0, .ref m0), (1, .int s_), (2, .int n), (3, .int i)]) hx hb dX8_meant_160 hl (by decide) rfl (fun ls hl => ?_)
        refine lv_iconst (v := 0) hx hb dX8_meant_162 (by decide) ?_
        refine lv_istore (lv' := [(10, .int 0), (9, .int r_16), (8, .int i_147), (7, .int v_3), (6, .int v_2), (5, .int v_1), (0, .ref m0), (1, .int s_), (2, .int n), (3, .int i)]) hx hb dX8_meant_163 hl (by decide) rfl (fun ls hl => ?_)
        refine lv_aload_n hx hb dX8_meant_165 rfl (lv_at hl 6 rfl) ?_
        refine va_get (D := D) (ci := 8) (v := .int npu) (C := RX8) (T := TX8) (N := 38) hx hb hts hi_X8_meant_8 hown hK hP 0 rfl rfl 0 (by decide) (hts (.fieldLink RX8 90 "TheLiningsInItModel" "pulls" "I") (List.mem_of_getElem? (i := 3) rfl)) (fun _ h9 => h9) rfl dX8_meant_166 ?_
        refine lv_iconst (v := 1) hx hb dX8_meant_169 (by decide) ?_
        refine lv_isub hx hb dX8_meant_170 ?_
        refine lv_topi (fun x_17 ex_17 => ?_)
        have qx_17 : x_17.toInt = npu.toInt - 1 := by rw [ex_17]; exact zf_sub rfl (by decide) (by omega) (by omega)
        refine lv_istore (lv' := [(11, .int x_17), (10, .int 0), (9, .int r_16), (8, .int i_147), (7, .int v_3), (6, .int v_2), (5, .int v_1), (0, .ref m0), (1, .int s_), (2, .int n), (3, .int i)]) hx hb dX8_meant_171 hl (by decide) rfl (fun ls hl => ?_)
        obtain ⟨i_173, hi_173⟩ : ∃ i : Int32, i = x_17 := ⟨_, rfl⟩
        replace hl : lv_has ls 12 [(11, .int i_173), (10, .int 0), (9, .int r_16), (8, .int i_147), (7, .int v_3), (6, .int v_2), (5, .int v_1), (0, .ref m0), (1, .int s_), (2, .int n), (3, .int i)] := by rw [hi_173]; exact lv_sub hl [0, 1, 2, 3, 4, 5, 6, 7, 8, 9, 10] rfl
        have h1i_173 : i_173.toInt = x_17.toInt := by rw [hi_173]
        obtain ⟨nfu_173, hni_173⟩ : ∃ nq9 : Nat, i_173.toInt + 1 ≤ (nq9 : Int) := ⟨(x_17.toInt + 1).toNat, by omega⟩
        have hloi_173 : i_173.toInt ≤ 7 := by omega
        obtain ⟨v_18, hv_18⟩ : ∃ g : Int32, g = v_3 := ⟨_, rfl⟩
        obtain ⟨v_19, hv_19⟩ : ∃ g : Int32, g = 0 := ⟨_, rfl⟩
        replace hl : lv_has ls 12 [(11, .int i_173), (10, .int v_19), (9, .int r_16), (8, .int i_147), (7, .int v_18), (6, .int v_2), (5, .int v_1), (0, .ref m0), (1, .int s_), (2, .int n), (3, .int i)] := by rw [hv_18, hv_19]; exact hl
        clear h1i_173 hi_173 hv_18 hv_19
        skip
        revert hni_173
        revert hloi_173
        revert hl
        revert hS
        revert hD
        revert hP
        revert ls
        revert locs
        revert H
        revert v_19
        revert v_18
        revert i_173
        induction nfu_173 with
        | zero =>
          intro i_173 v_18 v_19 H locs ls hP hD hS hl hloi_173 hni_173
          have hzi_173 : i_173.toInt ≤ -1 := by omega
          refine lv_iload hx hb dX8_meant_173 (lv_at hl 0 rfl) ?_
          refine lv_if_lt (tgt := 218) hx hb dX8_meant_175 (by decide) (fun c_20 => ?_) (fun c_20 => ?_)
          · have fc_20 : i_173.toInt < 0 := zf_lt c_20 rfl (by decide)
            refine lv_iload hx hb dX8_meant_218 (lv_at hl 6 rfl) ?_
            refine lv_iload hx hb dX8_meant_220 (lv_at hl 1 rfl) ?_
            refine lv_imul hx hb dX8_meant_222 ?_
            refine lv_topi (fun x_21 ex_21 => ?_)
            refine lv_ldcw (own := RX8) (v := 1000000) hx hb hown (hts _ (List.mem_of_getElem? (i := 4) rfl)) dX8_meant_223 ?_
            refine lv_icmp_le (tgt := 235) hx hb dX8_meant_226 (by decide) (fun c_22 => ?_) (fun c_22 => ?_)
            · have fc_22 : x_21.toInt ≤ 1000000 := zf_le c_22 rfl (by decide)
              refine lv_iload hx hb dX8_meant_235 (lv_at hl 6 rfl) ?_
              refine lv_iload hx hb dX8_meant_237 (lv_at hl 1 rfl) ?_
              refine lv_imul hx hb dX8_meant_239 ?_
              refine lv_topi (fun y_23 ey_23 => ?_)
              obtain rfl : x_21 = y_23 := ex_21.trans ey_23.symm
              refine lv_istore (lv' := [(5, .int x_21), (11, .int i_173), (10, .int v_19), (9, .int r_16), (8, .int i_147), (7, .int v_18), (6, .int v_2), (0, .ref m0), (1, .int s_), (2, .int n), (3, .int i)]) hx hb dX8_meant_240 hl (by decide) rfl (fun ls hl => ?_)
              refine lv_iload hx hb dX8_meant_242 (lv_at hl 3 rfl) ?_
              refine lv_istore (lv' := [(6, .int r_16), (5, .int x_21), (11, .int i_173), (10, .int v_19), (9, .int r_16), (8, .int i_147), (7, .int v_18), (0, .ref m0), (1, .int s_), (2, .int n), (3, .int i)]) hx hb dX8_meant_244 hl (by decide) rfl (fun ls hl => ?_)
              obtain ⟨x_24, ex_24⟩ : ∃ y : Int32, y = i_147 + 1 := ⟨_, rfl⟩
              have qx_24 : x_24.toInt = i_147.toInt + 1 := dw_inc ex_24 fc_10
              refine lv_iinc (v := x_24) (lv' := [(8, .int x_24), (6, .int r_16), (5, .int x_21), (11, .int i_173), (10, .int v_19), (9, .int r_16), (7, .int v_18), (0, .ref m0), (1, .int s_), (2, .int n), (3, .int i)]) hx hb dX8_meant_246 hl (k := 5) rfl ex_24.symm (by decide) rfl (fun ls hl => ?_)
              refine lv_goto (tgt := 147) hx hb dX8_meant_249 (by decide) ?_
              exact ih x_24 x_21 r_16 v_18 _ _ _ (hP.sub [0, 1, 2, 3, 4, 5, 6] rfl) (hD.sub [0, 1, 2, 3, 4, 5, 6] (by decide) rfl) hS (lv_sub hl [0, 6, 1, 2, 7, 8, 9, 10] rfl) (dw_lo hloi_147 qx_24) (dw_hn hni_147 qx_24)
            · have fc_22 : 1000000 < x_21.toInt := zf_nle c_22 rfl (by decide)
              refine lv_ldcw (own := RX8) (v := 1000000) hx hb hown (hts _ (List.mem_of_getElem? (i := 4) rfl)) dX8_meant_229 ?_
              refine lv_goto (tgt := 240) hx hb dX8_meant_232 (by decide) ?_
              refine lv_istore (lv' := [(5, .int 1000000), (11, .int i_173), (10, .int v_19), (9, .int r_16), (8, .int i_147), (7, .int v_18), (6, .int v_2), (0, .ref m0), (1, .int s_), (2, .int n), (3, .int i)]) hx hb dX8_meant_240 hl (by decide) rfl (fun ls hl => ?_)
              refine lv_iload hx hb dX8_meant_242 (lv_at hl 3 rfl) ?_
              refine lv_istore (lv' := [(6, .int r_16), (5, .int 1000000), (11, .int i_173), (10, .int v_19), (9, .int r_16), (8, .int i_147), (7, .int v_18), (0, .ref m0), (1, .int s_), (2, .int n), (3, .int i)]) hx hb dX8_meant_244 hl (by decide) rfl (fun ls hl => ?_)
              obtain ⟨x_25, ex_25⟩ : ∃ y : Int32, y = i_147 + 1 := ⟨_, rfl⟩
              have qx_25 : x_25.toInt = i_147.toInt + 1 := dw_inc ex_25 fc_10
              refine lv_iinc (v := x_25) (lv' := [(8, .int x_25), (6, .int r_16), (5, .int 1000000), (11, .int i_173), (10, .int v_19), (9, .int r_16), (7, .int v_18), (0, .ref m0), (1, .int s_), (2, .int n), (3, .int i)]) hx hb dX8_meant_246 hl (k := 5) rfl ex_25.symm (by decide) rfl (fun ls hl => ?_)
              refine lv_goto (tgt := 147) hx hb dX8_meant_249 (by decide) ?_
              exact ih x_25 1000000 r_16 v_18 _ _ _ (hP.sub [0, 1, 2, 3, 4, 5, 6] rfl) (hD.sub [0, 1, 2, 3, 4, 5, 6] (by decide) rfl) hS (lv_sub hl [0, 6, 1, 2, 7, 8, 9, 10] rfl) (dw_lo hloi_147 qx_25) (dw_hn hni_147 qx_25)
          · exfalso; have fc_20 : 0 ≤ i_173.toInt := zf_nlt c_20 rfl (by decide); omega
        | succ nfu_173 ih_173 =>
          intro i_173 v_18 v_19 H locs ls hP hD hS hl hloi_173 hni_173
          refine lv_iload hx hb dX8_meant_173 (lv_at hl 0 rfl) ?_
          refine lv_if_lt (tgt := 218) hx hb dX8_meant_175 (by decide) (fun c_26 => ?_) (fun c_26 => ?_)
          · have fc_26 : i_173.toInt < 0 := zf_lt c_26 rfl (by decide)
            refine lv_iload hx hb dX8_meant_218 (lv_at hl 6 rfl) ?_
            refine lv_iload hx hb dX8_meant_220 (lv_at hl 1 rfl) ?_
            refine lv_imul hx hb dX8_meant_222 ?_
            refine lv_topi (fun x_27 ex_27 => ?_)
            refine lv_ldcw (own := RX8) (v := 1000000) hx hb hown (hts _ (List.mem_of_getElem? (i := 4) rfl)) dX8_meant_223 ?_
            refine lv_icmp_le (tgt := 235) hx hb dX8_meant_226 (by decide) (fun c_28 => ?_) (fun c_28 => ?_)
            · have fc_28 : x_27.toInt ≤ 1000000 := zf_le c_28 rfl (by decide)
              refine lv_iload hx hb dX8_meant_235 (lv_at hl 6 rfl) ?_
              refine lv_iload hx hb dX8_meant_237 (lv_at hl 1 rfl) ?_
              refine lv_imul hx hb dX8_meant_239 ?_
              refine lv_topi (fun y_29 ey_29 => ?_)
              obtain rfl : x_27 = y_29 := ex_27.trans ey_29.symm
              refine lv_istore (lv' := [(5, .int x_27), (11, .int i_173), (10, .int v_19), (9, .int r_16), (8, .int i_147), (7, .int v_18), (6, .int v_2), (0, .ref m0), (1, .int s_), (2, .int n), (3, .int i)]) hx hb dX8_meant_240 hl (by decide) rfl (fun ls hl => ?_)
              refine lv_iload hx hb dX8_meant_242 (lv_at hl 3 rfl) ?_
              refine lv_istore (lv' := [(6, .int r_16), (5, .int x_27), (11, .int i_173), (10, .int v_19), (9, .int r_16), (8, .int i_147), (7, .int v_18), (0, .ref m0), (1, .int s_), (2, .int n), (3, .int i)]) hx hb dX8_meant_244 hl (by decide) rfl (fun ls hl => ?_)
              obtain ⟨x_30, ex_30⟩ : ∃ y : Int32, y = i_147 + 1 := ⟨_, rfl⟩
              have qx_30 : x_30.toInt = i_147.toInt + 1 := dw_inc ex_30 fc_10
              refine lv_iinc (v := x_30) (lv' := [(8, .int x_30), (6, .int r_16), (5, .int x_27), (11, .int i_173), (10, .int v_19), (9, .int r_16), (7, .int v_18), (0, .ref m0), (1, .int s_), (2, .int n), (3, .int i)]) hx hb dX8_meant_246 hl (k := 5) rfl ex_30.symm (by decide) rfl (fun ls hl => ?_)
              refine lv_goto (tgt := 147) hx hb dX8_meant_249 (by decide) ?_
              exact ih x_30 x_27 r_16 v_18 _ _ _ (hP.sub [0, 1, 2, 3, 4, 5, 6] rfl) (hD.sub [0, 1, 2, 3, 4, 5, 6] (by decide) rfl) hS (lv_sub hl [0, 6, 1, 2, 7, 8, 9, 10] rfl) (dw_lo hloi_147 qx_30) (dw_hn hni_147 qx_30)
            · have fc_28 : 1000000 < x_27.toInt := zf_nle c_28 rfl (by decide)
              refine lv_ldcw (own := RX8) (v := 1000000) hx hb hown (hts _ (List.mem_of_getElem? (i := 4) rfl)) dX8_meant_229 ?_
              refine lv_goto (tgt := 240) hx hb dX8_meant_232 (by decide) ?_
              refine lv_istore (lv' := [(5, .int 1000000), (11, .int i_173), (10, .int v_19), (9, .int r_16), (8, .int i_147), (7, .int v_18), (6, .int v_2), (0, .ref m0), (1, .int s_), (2, .int n), (3, .int i)]) hx hb dX8_meant_240 hl (by decide) rfl (fun ls hl => ?_)
              refine lv_iload hx hb dX8_meant_242 (lv_at hl 3 rfl) ?_
              refine lv_istore (lv' := [(6, .int r_16), (5, .int 1000000), (11, .int i_173), (10, .int v_19), (9, .int r_16), (8, .int i_147), (7, .int v_18), (0, .ref m0), (1, .int s_), (2, .int n), (3, .int i)]) hx hb dX8_meant_244 hl (by decide) rfl (fun ls hl => ?_)
              obtain ⟨x_31, ex_31⟩ : ∃ y : Int32, y = i_147 + 1 := ⟨_, rfl⟩
              have qx_31 : x_31.toInt = i_147.toInt + 1 := dw_inc ex_31 fc_10
              refine lv_iinc (v := x_31) (lv' := [(8, .int x_31), (6, .int r_16), (5, .int 1000000), (11, .int i_173), (10, .int v_19), (9, .int r_16), (7, .int v_18), (0, .ref m0), (1, .int s_), (2, .int n), (3, .int i)]) hx hb dX8_meant_246 hl (k := 5) rfl ex_31.symm (by decide) rfl (fun ls hl => ?_)
              refine lv_goto (tgt := 147) hx hb dX8_meant_249 (by decide) ?_
              exact ih x_31 1000000 r_16 v_18 _ _ _ (hP.sub [0, 1, 2, 3, 4, 5, 6] rfl) (hD.sub [0, 1, 2, 3, 4, 5, 6] (by decide) rfl) hS (lv_sub hl [0, 6, 1, 2, 7, 8, 9, 10] rfl) (dw_lo hloi_147 qx_31) (dw_hn hni_147 qx_31)
          · have fc_26 : 0 ≤ i_173.toInt := zf_nlt c_26 rfl (by decide)
            refine lv_aload_n hx hb dX8_meant_178 rfl (lv_at hl 7 rfl) ?_
            refine lv_iload hx hb dX8_meant_179 (lv_at hl 0 rfl) ?_
            refine lv_iload hx hb dX8_meant_181 (lv_at hl 5 rfl) ?_
            refine lv_iload hx hb dX8_meant_183 (lv_at hl 2 rfl) ?_
            refine zc_V (As := [.int i_173, .int v_2, .int r_16]) (rest := []) ⟨hx, hb, hml, hown, hts⟩ (c_M_mayMake l D cI cJ cZ cP cS po m0 mrf mki mpa mta mla msl mco mhe mso msi msh mce mca mwo mnu mte mwa mke mma mth mtr (npu) (nte) (nat_) (nde) (nto) (nse) (nhu) (nga) (nsd) (nfa) (nba) (npl) (nen) (nnu) (nwr) (nra) (nik) gki gpa (i_173) (v_2) (r_16) hy0 hy1 hy2 hy3 hy4 hy5 hy6 hy7 hy8 hy9 hy10 hy11 hy12 hy13 (by omega) (by omega) hp_gki hp_gpa) (cwV 3 hts gX8_meant_X8_mayMake rfl rfl rfl ⟨rfl, dh_X8_mayMake⟩ ⟨Nat.le_of_ble_eq_true rfl, Nat.le_of_ble_eq_true rfl⟩) hK hN (hZ.kept hS) hP (hP.sub [0, 5, 6] rfl) (va_recv (q := (RX8, TX8, 38)) hK hP (ci := 8) (q0 := 0) rfl rfl) rfl hl.1 rfl (Nat.le_of_ble_eq_true rfl) dX8_meant_185 ⟨Nat.le_of_ble_eq_true rfl, Nat.le_of_ble_eq_true rfl⟩ (fun r_32 hr_32 => ?_)
            obtain ⟨g_33, g_34⟩ := hr_32
            refine lv_if_ne (tgt := 194) hx hb dX8_meant_188 (by decide) (fun c_35 => ?_) (fun c_35 => ?_)
            · have fc_35 : r_32.toInt ≠ 0 := zf_ne c_35 rfl (by decide)
              obtain ⟨x_36, ex_36⟩ : ∃ y : Int32, y = v_19 + 1 := ⟨_, rfl⟩
              refine lv_iinc (v := x_36) (lv' := [(10, .int x_36), (11, .int i_173), (9, .int r_16), (8, .int i_147), (7, .int v_18), (6, .int v_2), (5, .int v_1), (0, .ref m0), (1, .int s_), (2, .int n), (3, .int i)]) hx hb dX8_meant_194 hl (k := 1) rfl ex_36.symm (by decide) rfl (fun ls hl => ?_)
              refine lv_iload hx hb dX8_meant_197 (lv_at hl 3 rfl) ?_
              refine lv_iload_n hx hb dX8_meant_199 rfl (lv_at hl 10 rfl) ?_
              refine lv_icmp_ne (tgt := 208) hx hb dX8_meant_200 (by decide) (fun c_37 => ?_) (fun c_37 => ?_)
              · have fc_37 : i_147.toInt ≠ i.toInt := zf_ne c_37 rfl rfl
                refine lv_iload hx hb dX8_meant_208 (lv_at hl 4 rfl) ?_
                refine lv_istore (lv' := [(7, .int v_18), (10, .int x_36), (11, .int i_173), (9, .int r_16), (8, .int i_147), (6, .int v_2), (5, .int v_1), (0, .ref m0), (1, .int s_), (2, .int n), (3, .int i)]) hx hb dX8_meant_210 hl (by decide) rfl (fun ls hl => ?_)
                obtain ⟨x_38, ex_38⟩ : ∃ y : Int32, y = i_173 + (-1) := ⟨_, rfl⟩
                have qx_38 : x_38.toInt = i_173.toInt + (-1) := by rw [ex_38]; exact zf_add rfl (by decide) (by omega) (by omega)
                refine lv_iinc (v := x_38) (lv' := [(11, .int x_38), (7, .int v_18), (10, .int x_36), (9, .int r_16), (8, .int i_147), (6, .int v_2), (5, .int v_1), (0, .ref m0), (1, .int s_), (2, .int n), (3, .int i)]) hx hb dX8_meant_212 hl (k := 2) rfl ex_38.symm (by decide) rfl (fun ls hl => ?_)
                refine lv_goto (tgt := 173) hx hb dX8_meant_215 (by decide) ?_
                exact ih_173 x_38 v_18 x_36 _ _ _ (hP.sub [0, 1, 2, 3, 4, 5, 6] rfl) (hD.sub [0, 1, 2, 3, 4, 5, 6] (by decide) rfl) hS (lv_sub hl [0, 2, 3, 4, 1, 5, 6, 7, 8, 9, 10] rfl) (by omega) (by omega)
              · have fc_37 : i_147.toInt = i.toInt := zf_eq c_37 rfl rfl
                refine lv_iload hx hb dX8_meant_203 (lv_at hl 1 rfl) ?_
                refine lv_goto (tgt := 210) hx hb dX8_meant_205 (by decide) ?_
                refine lv_istore (lv' := [(7, .int i_173), (10, .int x_36), (11, .int i_173), (9, .int r_16), (8, .int i_147), (6, .int v_2), (5, .int v_1), (0, .ref m0), (1, .int s_), (2, .int n), (3, .int i)]) hx hb dX8_meant_210 hl (by decide) rfl (fun ls hl => ?_)
                obtain ⟨x_39, ex_39⟩ : ∃ y : Int32, y = i_173 + (-1) := ⟨_, rfl⟩
                have qx_39 : x_39.toInt = i_173.toInt + (-1) := by rw [ex_39]; exact zf_add rfl (by decide) (by omega) (by omega)
                refine lv_iinc (v := x_39) (lv' := [(11, .int x_39), (7, .int i_173), (10, .int x_36), (9, .int r_16), (8, .int i_147), (6, .int v_2), (5, .int v_1), (0, .ref m0), (1, .int s_), (2, .int n), (3, .int i)]) hx hb dX8_meant_212 hl (k := 2) rfl ex_39.symm (by decide) rfl (fun ls hl => ?_)
                refine lv_goto (tgt := 173) hx hb dX8_meant_215 (by decide) ?_
                exact ih_173 x_39 i_173 x_36 _ _ _ (hP.sub [0, 1, 2, 3, 4, 5, 6] rfl) (hD.sub [0, 1, 2, 3, 4, 5, 6] (by decide) rfl) hS (lv_sub hl [0, 2, 3, 4, 1, 5, 6, 7, 8, 9, 10] rfl) (by omega) (by omega)
            · have fc_35 : r_32.toInt = 0 := zf_eq c_35 rfl (by decide)
              refine lv_goto (tgt := 212) hx hb dX8_meant_191 (by decide) ?_
              obtain ⟨x_40, ex_40⟩ : ∃ y : Int32, y = i_173 + (-1) := ⟨_, rfl⟩
              have qx_40 : x_40.toInt = i_173.toInt + (-1) := by rw [ex_40]; exact zf_add rfl (by decide) (by omega) (by omega)
              refine lv_iinc (v := x_40) (lv' := [(11, .int x_40), (10, .int v_19), (9, .int r_16), (8, .int i_147), (7, .int v_18), (6, .int v_2), (5, .int v_1), (0, .ref m0), (1, .int s_), (2, .int n), (3, .int i)]) hx hb dX8_meant_212 hl (k := 0) rfl ex_40.symm (by decide) rfl (fun ls hl => ?_)
              refine lv_goto (tgt := 173) hx hb dX8_meant_215 (by decide) ?_
              exact ih_173 x_40 v_18 v_19 _ _ _ (hP.sub [0, 1, 2, 3, 4, 5, 6] rfl) (hD.sub [0, 1, 2, 3, 4, 5, 6] (by decide) rfl) hS (lv_sub hl [0, 1, 2, 3, 4, 5, 6, 7, 8, 9, 10] rfl) (by omega) (by omega)
  refine zcut (T := fun K => ∀ (H : Heap) (locs : List Loc) (ls : Array Slot) (ba : Int32) (hP : va_P D vwCl [(zMO m0 npu nte nat_ nde nto nse nhu nga nsd nfa mrf mki mpa mta mla msl mco mhe mso msi msh mce mca mwo mnu mte nba npl nen nnu nwr mwa mke mma mth mtr nra nik), (mrf, .inl (cI, 8, .inl grf)), (mhe, .inl (cI, 8, .inl ghe)), (msi, .inl (cI, 8, .inl gsi)), (mce, .inl (cJ, 1280, .inr (.inl gce))), (mki, .inl (cI, 8, .inl gki)), (mpa, .inl (cI, 8, .inl gpa))] H) (hD : va_D (va_A [(zMO m0 npu nte nat_ nde nto nse nhu nga nsd nfa mrf mki mpa mta mla msl mco mhe mso msi msh mce mca mwo mnu mte nba npl nen nnu nwr mwa mke mma mth mtr nra nik), (mrf, .inl (cI, 8, .inl grf)), (mhe, .inl (cI, 8, .inl ghe)), (msi, .inl (cI, 8, .inl gsi)), (mce, .inl (cJ, 1280, .inr (.inl gce))), (mki, .inl (cI, 8, .inl gki)), (mpa, .inl (cI, 8, .inl gpa))] s.heap.size) [(zMO m0 npu nte nat_ nde nto nse nhu nga nsd nfa mrf mki mpa mta mla msl mco mhe mso msi msh mce mca mwo mnu mte nba npl nen nnu nwr mwa mke mma mth mtr nra nik), (mrf, .inl (cI, 8, .inl grf)), (mhe, .inl (cI, 8, .inl ghe)), (msi, .inl (cI, 8, .inl gsi)), (mce, .inl (cJ, 1280, .inr (.inl gce))), (mki, .inl (cI, 8, .inl gki)), (mpa, .inl (cI, 8, .inl gpa))]) (hS : va_S (va_A [(zMO m0 npu nte nat_ nde nto nse nhu nga nsd nfa mrf mki mpa mta mla msl mco mhe mso msi msh mce mca mwo mnu mte nba npl nen nnu nwr mwa mke mma mth mtr nra nik), (mrf, .inl (cI, 8, .inl grf)), (mhe, .inl (cI, 8, .inl ghe)), (msi, .inl (cI, 8, .inl gsi)), (mce, .inl (cJ, 1280, .inr (.inl gce))), (mki, .inl (cI, 8, .inl gki)), (mpa, .inl (cI, 8, .inl gpa))] s.heap.size) s.heap H locs) (hl : lv_has ls 12 [(0, .ref m0), (1, .int s_), (2, .int n), (3, .int i), (4, .int ba)]) (hf55_0 : -6 ≤ ba.toInt ∧ ba.toInt ≤ 0) (hf55_1 : (ba.toInt = 0 → (0 ≤ s_.toInt ∧ s_.toInt ≤ 7) ∧ 1 ≤ n.toInt ∧ n.toInt ≤ 20)), K H locs ls) (pc := 55) ?_ (fun hcut55 => ?_)
  · intro H locs ls ba hP hD hS hl hf55_0 hf55_1
    refine lv_iconst (v := 0) hx hb dX8_meant_55 (by decide) ?_
    refine lv_istore (lv' := [(5, .int 0), (0, .ref m0), (1, .int s_), (2, .int n), (3, .int i), (4, .int ba)]) hx hb dX8_meant_56 hl (by decide) rfl (fun ls hl => ?_)
    obtain ⟨i_58, hi_58⟩ : ∃ i : Int32, i = 0 := ⟨_, rfl⟩
    replace hl : lv_has ls 12 [(5, .int i_58), (0, .ref m0), (1, .int s_), (2, .int n), (3, .int i), (4, .int ba)] := by rw [hi_58]; exact lv_sub hl [0, 1, 2, 3, 4, 5] rfl
    have h1i_58 : i_58.toInt = 0 := by rw [hi_58]; decide
    obtain ⟨nfu, hni_58⟩ : ∃ nq9 : Nat, n.toInt ≤ i_58.toInt + (nq9 : Int) := ⟨((n.toInt : Int) - 0).toNat, by omega⟩
    have hloi_58 : 0 ≤ i_58.toInt := by omega
    obtain ⟨v_41, hv_41⟩ : ∃ g : Int32, g = ba := ⟨_, rfl⟩
    replace hl : lv_has ls 12 [(5, .int i_58), (0, .ref m0), (1, .int s_), (2, .int n), (3, .int i), (4, .int v_41)] := by rw [hv_41]; exact hl
    have hbv_41 : -6 ≤ v_41.toInt ∧ v_41.toInt ≤ 0 := by rw [hv_41]; exact ⟨by omega, by omega⟩
    have hvi_58_0 : ((v_41 : Int32).toInt = 0 → (0 ≤ s_.toInt ∧ s_.toInt ≤ 7) ∧ 1 ≤ n.toInt ∧ n.toInt ≤ 20) := by
      (try rw [hi_58]); (try rw [hv_41]); omega
    clear h1i_58 hi_58 hv_41
    skip
    revert hni_58
    revert hloi_58
    revert hvi_58_0
    revert hbv_41
    revert hl
    revert hS
    revert hD
    revert hP
    revert ls
    revert locs
    revert H
    revert v_41
    revert i_58
    induction nfu with
    | zero =>
      intro i_58 v_41 H locs ls hP hD hS hl hbv_41 hvi_58_0 hloi_58 hni_58
      have hzi_58 : n.toInt ≤ i_58.toInt := by omega
      refine lv_iload hx hb dX8_meant_58 (lv_at hl 0 rfl) ?_
      refine lv_iload_n hx hb dX8_meant_60 rfl (lv_at hl 3 rfl) ?_
      refine lv_icmp_ge (tgt := 101) hx hb dX8_meant_61 (by decide) (fun c_42 => ?_) (fun c_42 => ?_)
      · have fc_42 : n.toInt ≤ i_58.toInt := zf_le c_42 rfl rfl
        refine lv_iload hx hb dX8_meant_101 (lv_at hl 5 rfl) ?_
        refine lv_if_ne (tgt := 120) hx hb dX8_meant_103 (by decide) (fun c_43 => ?_) (fun c_43 => ?_)
        · have fc_43 : v_41.toInt ≠ 0 := zf_ne c_43 rfl (by decide)
          refine lv_iload hx hb dX8_meant_120 (lv_at hl 5 rfl) ?_
          refine lv_if_eq (tgt := 132) hx hb dX8_meant_122 (by decide) (fun c_44 => ?_) (fun c_44 => ?_)
          · exfalso; have fc_44 : v_41.toInt = 0 := zf_eq c_44 rfl (by decide); omega
          · have fc_44 : v_41.toInt ≠ 0 := zf_ne c_44 rfl (by decide)
            refine lv_aload_n hx hb dX8_meant_125 rfl (lv_at hl 1 rfl) ?_
            refine lv_iload hx hb dX8_meant_126 (lv_at hl 5 rfl) ?_
            skip
            refine zw_V (As := [.int v_41]) (rest := []) (wr := [(mhe, .inl (cI, 8, .inl ghe)), (msi, .inl (cI, 8, .inl gsi)), (mce, .inl (cJ, 1280, .inr (.inl gce))), (mki, .inl (cI, 8, .inl gki)), (mpa, .inl (cI, 8, .inl gpa))]) ⟨hx, hb, hml, hown, hts⟩ (c_M_no l D cI cJ cZ cP cS po m0 mrf mki mpa mta mla msl mco mhe mso msi msh mce mca mwo mnu mte mwa mke mma mth mtr (npu) (nte) (nat_) (nde) (nto) (nse) (nhu) (nga) (nsd) (nfa) (nba) (npl) (nen) (nnu) (nwr) (nra) (nik) grf (v_41) hy0 hy1 hy2 hy3 hy4 hy5 hy6 hy7 hy8 hy9 hy10 hy11 hy12 hy13 (by omega) (by omega) H.size) (cwV 1 hts gX8_meant_X8_no rfl rfl rfl ⟨rfl, dh_X8_no⟩ ⟨Nat.le_of_ble_eq_true rfl, Nat.le_of_ble_eq_true rfl⟩) hK hN (hZ.kept hS) hP hD hS hA [0, 1] [2, 3, 4, 5, 6] rfl rfl (by decide) (by decide) (by decide) (va_recv (q := (RX8, TX8, 38)) hK hP (ci := 8) (q0 := 0) rfl rfl) rfl hl.1 rfl (Nat.le_of_ble_eq_true rfl) dX8_meant_128 ⟨Nat.le_of_ble_eq_true rfl, Nat.le_of_ble_eq_true rfl⟩ (fun r_45 u_46 H locs hr_45 hP hD hS => ?_)
            obtain ⟨q_47, rfl⟩ : ∃ z, z = u_46 := ⟨_, rfl⟩
            have h9R := zRe (ws' := [(mhe, .inl (cI, 8, .inl ghe)), (msi, .inl (cI, 8, .inl gsi)), (mce, .inl (cJ, 1280, .inr (.inl gce))), (mki, .inl (cI, 8, .inl gki)), (mpa, .inl (cI, 8, .inl gpa)), (zMO m0 npu nte nat_ nde nto nse nhu nga nsd nfa mrf mki mpa mta mla msl mco mhe mso msi msh mce mca mwo mnu mte nba npl nen nnu nwr mwa mke mma mth mtr nra nik), (mrf, .inl (cI, 8, .inl q_47))]) hP hD rfl
            clear hP hD
            obtain ⟨hP, hD⟩ := h9R
            have w_48 := hr_45
            obtain rfl : v_41 = r_45 := w_48.symm
            exact W.iret (v := v_41) hx hb hr (fun t ht hW => ⟨⟨v_41, q_47, rfl, trivial, zRet ht hP hD [5, 6, 0, 1, 2, 3, 4] (by decide) rfl⟩, hS.F ht⟩) hS.2.2 dX8_meant_131
        · have fc_43 : v_41.toInt = 0 := zf_eq c_43 rfl (by decide)
          refine lv_iload_n hx hb dX8_meant_106 rfl (lv_at hl 4 rfl) ?_
          refine lv_iconst (v := (-1)) hx hb dX8_meant_107 (by decide) ?_
          refine lv_icmp_lt (tgt := 116) hx hb dX8_meant_108 (by decide) (fun c_49 => ?_) (fun c_49 => ?_)
          · have fc_49 : i.toInt < (-1) := zf_lt c_49 rfl (by decide)
            refine lv_bipush (v := (-5)) hx hb dX8_meant_116 (by decide) ?_
            refine lv_istore (lv' := [(4, .int (-5)), (5, .int i_58), (0, .ref m0), (1, .int s_), (2, .int n), (3, .int i)]) hx hb dX8_meant_118 hl (by decide) rfl (fun ls hl => ?_)
            refine lv_iload hx hb dX8_meant_120 (lv_at hl 0 rfl) ?_
            refine lv_if_eq (tgt := 132) hx hb dX8_meant_122 (by decide) (fun c_50 => ?_) (fun c_50 => ?_)
            · exact absurd c_50 (by decide)
            · refine lv_aload_n hx hb dX8_meant_125 rfl (lv_at hl 2 rfl) ?_
              refine lv_iload hx hb dX8_meant_126 (lv_at hl 0 rfl) ?_
              skip
              refine zw_V (As := [.int (-5)]) (rest := []) (wr := [(mhe, .inl (cI, 8, .inl ghe)), (msi, .inl (cI, 8, .inl gsi)), (mce, .inl (cJ, 1280, .inr (.inl gce))), (mki, .inl (cI, 8, .inl gki)), (mpa, .inl (cI, 8, .inl gpa))]) ⟨hx, hb, hml, hown, hts⟩ (c_M_no_5 l D cI cJ cZ cP cS po m0 mrf mki mpa mta mla msl mco mhe mso msi msh mce mca mwo mnu mte mwa mke mma mth mtr (npu) (nte) (nat_) (nde) (nto) (nse) (nhu) (nga) (nsd) (nfa) (nba) (npl) (nen) (nnu) (nwr) (nra) (nik) grf hy0 hy1 hy2 hy3 hy4 hy5 hy6 hy7 hy8 hy9 hy10 hy11 hy12 hy13 H.size) (cwV 1 hts gX8_meant_X8_no rfl rfl rfl ⟨rfl, dh_X8_no⟩ ⟨Nat.le_of_ble_eq_true rfl, Nat.le_of_ble_eq_true rfl⟩) hK hN (hZ.kept hS) hP hD hS hA [0, 1] [2, 3, 4, 5, 6] rfl rfl (by decide) (by decide) (by decide) (va_recv (q := (RX8, TX8, 38)) hK hP (ci := 8) (q0 := 0) rfl rfl) rfl hl.1 rfl (Nat.le_of_ble_eq_true rfl) dX8_meant_128 ⟨Nat.le_of_ble_eq_true rfl, Nat.le_of_ble_eq_true rfl⟩ (fun r_51 u_52 H locs hr_51 hP hD hS => ?_)
              obtain ⟨q_53, rfl⟩ : ∃ z, z = u_52 := ⟨_, rfl⟩
              have h9R := zRe (ws' := [(mhe, .inl (cI, 8, .inl ghe)), (msi, .inl (cI, 8, .inl gsi)), (mce, .inl (cJ, 1280, .inr (.inl gce))), (mki, .inl (cI, 8, .inl gki)), (mpa, .inl (cI, 8, .inl gpa)), (zMO m0 npu nte nat_ nde nto nse nhu nga nsd nfa mrf mki mpa mta mla msl mco mhe mso msi msh mce mca mwo mnu mte nba npl nen nnu nwr mwa mke mma mth mtr nra nik), (mrf, .inl (cI, 8, .inl q_53))]) hP hD rfl
              clear hP hD
              obtain ⟨hP, hD⟩ := h9R
              obtain rfl := hr_51
              exact W.iret (v := (-5)) hx hb hr (fun t ht hW => ⟨⟨(-5), q_53, rfl, trivial, zRet ht hP hD [5, 6, 0, 1, 2, 3, 4] (by decide) rfl⟩, hS.F ht⟩) hS.2.2 dX8_meant_131
          · have fc_49 : (-1) ≤ i.toInt := zf_nlt c_49 rfl (by decide)
            refine lv_iload_n hx hb dX8_meant_111 rfl (lv_at hl 4 rfl) ?_
            refine lv_iload_n hx hb dX8_meant_112 rfl (lv_at hl 3 rfl) ?_
            refine lv_icmp_lt (tgt := 120) hx hb dX8_meant_113 (by decide) (fun c_54 => ?_) (fun c_54 => ?_)
            · have fc_54 : i.toInt < n.toInt := zf_lt c_54 rfl rfl
              refine lv_iload hx hb dX8_meant_120 (lv_at hl 5 rfl) ?_
              refine lv_if_eq (tgt := 132) hx hb dX8_meant_122 (by decide) (fun c_55 => ?_) (fun c_55 => ?_)
              · have fc_55 : v_41.toInt = 0 := zf_eq c_55 rfl (by decide)
                exact hcut132 H locs ls  hP hD hS (lv_sub hl [1, 2, 3, 4] rfl) (by first | omega | assumption | (simp; done) | (simp; omega))
              · exfalso; have fc_55 : v_41.toInt ≠ 0 := zf_ne c_55 rfl (by decide); omega
            · have fc_54 : n.toInt ≤ i.toInt := zf_nlt c_54 rfl rfl
              refine lv_bipush (v := (-5)) hx hb dX8_meant_116 (by decide) ?_
              refine lv_istore (lv' := [(4, .int (-5)), (5, .int i_58), (0, .ref m0), (1, .int s_), (2, .int n), (3, .int i)]) hx hb dX8_meant_118 hl (by decide) rfl (fun ls hl => ?_)
              refine lv_iload hx hb dX8_meant_120 (lv_at hl 0 rfl) ?_
              refine lv_if_eq (tgt := 132) hx hb dX8_meant_122 (by decide) (fun c_56 => ?_) (fun c_56 => ?_)
              · exact absurd c_56 (by decide)
              · refine lv_aload_n hx hb dX8_meant_125 rfl (lv_at hl 2 rfl) ?_
                refine lv_iload hx hb dX8_meant_126 (lv_at hl 0 rfl) ?_
                skip
                refine zw_V (As := [.int (-5)]) (rest := []) (wr := [(mhe, .inl (cI, 8, .inl ghe)), (msi, .inl (cI, 8, .inl gsi)), (mce, .inl (cJ, 1280, .inr (.inl gce))), (mki, .inl (cI, 8, .inl gki)), (mpa, .inl (cI, 8, .inl gpa))]) ⟨hx, hb, hml, hown, hts⟩ (c_M_no_5 l D cI cJ cZ cP cS po m0 mrf mki mpa mta mla msl mco mhe mso msi msh mce mca mwo mnu mte mwa mke mma mth mtr (npu) (nte) (nat_) (nde) (nto) (nse) (nhu) (nga) (nsd) (nfa) (nba) (npl) (nen) (nnu) (nwr) (nra) (nik) grf hy0 hy1 hy2 hy3 hy4 hy5 hy6 hy7 hy8 hy9 hy10 hy11 hy12 hy13 H.size) (cwV 1 hts gX8_meant_X8_no rfl rfl rfl ⟨rfl, dh_X8_no⟩ ⟨Nat.le_of_ble_eq_true rfl, Nat.le_of_ble_eq_true rfl⟩) hK hN (hZ.kept hS) hP hD hS hA [0, 1] [2, 3, 4, 5, 6] rfl rfl (by decide) (by decide) (by decide) (va_recv (q := (RX8, TX8, 38)) hK hP (ci := 8) (q0 := 0) rfl rfl) rfl hl.1 rfl (Nat.le_of_ble_eq_true rfl) dX8_meant_128 ⟨Nat.le_of_ble_eq_true rfl, Nat.le_of_ble_eq_true rfl⟩ (fun r_57 u_58 H locs hr_57 hP hD hS => ?_)
                obtain ⟨q_59, rfl⟩ : ∃ z, z = u_58 := ⟨_, rfl⟩
                have h9R := zRe (ws' := [(mhe, .inl (cI, 8, .inl ghe)), (msi, .inl (cI, 8, .inl gsi)), (mce, .inl (cJ, 1280, .inr (.inl gce))), (mki, .inl (cI, 8, .inl gki)), (mpa, .inl (cI, 8, .inl gpa)), (zMO m0 npu nte nat_ nde nto nse nhu nga nsd nfa mrf mki mpa mta mla msl mco mhe mso msi msh mce mca mwo mnu mte nba npl nen nnu nwr mwa mke mma mth mtr nra nik), (mrf, .inl (cI, 8, .inl q_59))]) hP hD rfl
                clear hP hD
                obtain ⟨hP, hD⟩ := h9R
                obtain rfl := hr_57
                exact W.iret (v := (-5)) hx hb hr (fun t ht hW => ⟨⟨(-5), q_59, rfl, trivial, zRet ht hP hD [5, 6, 0, 1, 2, 3, 4] (by decide) rfl⟩, hS.F ht⟩) hS.2.2 dX8_meant_131
      · exfalso; have fc_42 : i_58.toInt < n.toInt := zf_nle c_42 rfl rfl; omega
    | succ nfu ih =>
      intro i_58 v_41 H locs ls hP hD hS hl hbv_41 hvi_58_0 hloi_58 hni_58
      refine lv_iload hx hb dX8_meant_58 (lv_at hl 0 rfl) ?_
      refine lv_iload_n hx hb dX8_meant_60 rfl (lv_at hl 3 rfl) ?_
      refine lv_icmp_ge (tgt := 101) hx hb dX8_meant_61 (by decide) (fun c_60 => ?_) (fun c_60 => ?_)
      · have fc_60 : n.toInt ≤ i_58.toInt := zf_le c_60 rfl rfl
        refine lv_iload hx hb dX8_meant_101 (lv_at hl 5 rfl) ?_
        refine lv_if_ne (tgt := 120) hx hb dX8_meant_103 (by decide) (fun c_61 => ?_) (fun c_61 => ?_)
        · have fc_61 : v_41.toInt ≠ 0 := zf_ne c_61 rfl (by decide)
          refine lv_iload hx hb dX8_meant_120 (lv_at hl 5 rfl) ?_
          refine lv_if_eq (tgt := 132) hx hb dX8_meant_122 (by decide) (fun c_62 => ?_) (fun c_62 => ?_)
          · exfalso; have fc_62 : v_41.toInt = 0 := zf_eq c_62 rfl (by decide); omega
          · have fc_62 : v_41.toInt ≠ 0 := zf_ne c_62 rfl (by decide)
            refine lv_aload_n hx hb dX8_meant_125 rfl (lv_at hl 1 rfl) ?_
            refine lv_iload hx hb dX8_meant_126 (lv_at hl 5 rfl) ?_
            skip
            refine zw_V (As := [.int v_41]) (rest := []) (wr := [(mhe, .inl (cI, 8, .inl ghe)), (msi, .inl (cI, 8, .inl gsi)), (mce, .inl (cJ, 1280, .inr (.inl gce))), (mki, .inl (cI, 8, .inl gki)), (mpa, .inl (cI, 8, .inl gpa))]) ⟨hx, hb, hml, hown, hts⟩ (c_M_no l D cI cJ cZ cP cS po m0 mrf mki mpa mta mla msl mco mhe mso msi msh mce mca mwo mnu mte mwa mke mma mth mtr (npu) (nte) (nat_) (nde) (nto) (nse) (nhu) (nga) (nsd) (nfa) (nba) (npl) (nen) (nnu) (nwr) (nra) (nik) grf (v_41) hy0 hy1 hy2 hy3 hy4 hy5 hy6 hy7 hy8 hy9 hy10 hy11 hy12 hy13 (by omega) (by omega) H.size) (cwV 1 hts gX8_meant_X8_no rfl rfl rfl ⟨rfl, dh_X8_no⟩ ⟨Nat.le_of_ble_eq_true rfl, Nat.le_of_ble_eq_true rfl⟩) hK hN (hZ.kept hS) hP hD hS hA [0, 1] [2, 3, 4, 5, 6] rfl rfl (by decide) (by decide) (by decide) (va_recv (q := (RX8, TX8, 38)) hK hP (ci := 8) (q0 := 0) rfl rfl) rfl hl.1 rfl (Nat.le_of_ble_eq_true rfl) dX8_meant_128 ⟨Nat.le_of_ble_eq_true rfl, Nat.le_of_ble_eq_true rfl⟩ (fun r_63 u_64 H locs hr_63 hP hD hS => ?_)
            obtain ⟨q_65, rfl⟩ : ∃ z, z = u_64 := ⟨_, rfl⟩
            have h9R := zRe (ws' := [(mhe, .inl (cI, 8, .inl ghe)), (msi, .inl (cI, 8, .inl gsi)), (mce, .inl (cJ, 1280, .inr (.inl gce))), (mki, .inl (cI, 8, .inl gki)), (mpa, .inl (cI, 8, .inl gpa)), (zMO m0 npu nte nat_ nde nto nse nhu nga nsd nfa mrf mki mpa mta mla msl mco mhe mso msi msh mce mca mwo mnu mte nba npl nen nnu nwr mwa mke mma mth mtr nra nik), (mrf, .inl (cI, 8, .inl q_65))]) hP hD rfl
            clear hP hD
            obtain ⟨hP, hD⟩ := h9R
            have w_66 := hr_63
            obtain rfl : v_41 = r_63 := w_66.symm
            exact W.iret (v := v_41) hx hb hr (fun t ht hW => ⟨⟨v_41, q_65, rfl, trivial, zRet ht hP hD [5, 6, 0, 1, 2, 3, 4] (by decide) rfl⟩, hS.F ht⟩) hS.2.2 dX8_meant_131
        · have fc_61 : v_41.toInt = 0 := zf_eq c_61 rfl (by decide)
          refine lv_iload_n hx hb dX8_meant_106 rfl (lv_at hl 4 rfl) ?_
          refine lv_iconst (v := (-1)) hx hb dX8_meant_107 (by decide) ?_
          refine lv_icmp_lt (tgt := 116) hx hb dX8_meant_108 (by decide) (fun c_67 => ?_) (fun c_67 => ?_)
          · have fc_67 : i.toInt < (-1) := zf_lt c_67 rfl (by decide)
            refine lv_bipush (v := (-5)) hx hb dX8_meant_116 (by decide) ?_
            refine lv_istore (lv' := [(4, .int (-5)), (5, .int i_58), (0, .ref m0), (1, .int s_), (2, .int n), (3, .int i)]) hx hb dX8_meant_118 hl (by decide) rfl (fun ls hl => ?_)
            refine lv_iload hx hb dX8_meant_120 (lv_at hl 0 rfl) ?_
            refine lv_if_eq (tgt := 132) hx hb dX8_meant_122 (by decide) (fun c_68 => ?_) (fun c_68 => ?_)
            · exact absurd c_68 (by decide)
            · refine lv_aload_n hx hb dX8_meant_125 rfl (lv_at hl 2 rfl) ?_
              refine lv_iload hx hb dX8_meant_126 (lv_at hl 0 rfl) ?_
              skip
              refine zw_V (As := [.int (-5)]) (rest := []) (wr := [(mhe, .inl (cI, 8, .inl ghe)), (msi, .inl (cI, 8, .inl gsi)), (mce, .inl (cJ, 1280, .inr (.inl gce))), (mki, .inl (cI, 8, .inl gki)), (mpa, .inl (cI, 8, .inl gpa))]) ⟨hx, hb, hml, hown, hts⟩ (c_M_no_5 l D cI cJ cZ cP cS po m0 mrf mki mpa mta mla msl mco mhe mso msi msh mce mca mwo mnu mte mwa mke mma mth mtr (npu) (nte) (nat_) (nde) (nto) (nse) (nhu) (nga) (nsd) (nfa) (nba) (npl) (nen) (nnu) (nwr) (nra) (nik) grf hy0 hy1 hy2 hy3 hy4 hy5 hy6 hy7 hy8 hy9 hy10 hy11 hy12 hy13 H.size) (cwV 1 hts gX8_meant_X8_no rfl rfl rfl ⟨rfl, dh_X8_no⟩ ⟨Nat.le_of_ble_eq_true rfl, Nat.le_of_ble_eq_true rfl⟩) hK hN (hZ.kept hS) hP hD hS hA [0, 1] [2, 3, 4, 5, 6] rfl rfl (by decide) (by decide) (by decide) (va_recv (q := (RX8, TX8, 38)) hK hP (ci := 8) (q0 := 0) rfl rfl) rfl hl.1 rfl (Nat.le_of_ble_eq_true rfl) dX8_meant_128 ⟨Nat.le_of_ble_eq_true rfl, Nat.le_of_ble_eq_true rfl⟩ (fun r_69 u_70 H locs hr_69 hP hD hS => ?_)
              obtain ⟨q_71, rfl⟩ : ∃ z, z = u_70 := ⟨_, rfl⟩
              have h9R := zRe (ws' := [(mhe, .inl (cI, 8, .inl ghe)), (msi, .inl (cI, 8, .inl gsi)), (mce, .inl (cJ, 1280, .inr (.inl gce))), (mki, .inl (cI, 8, .inl gki)), (mpa, .inl (cI, 8, .inl gpa)), (zMO m0 npu nte nat_ nde nto nse nhu nga nsd nfa mrf mki mpa mta mla msl mco mhe mso msi msh mce mca mwo mnu mte nba npl nen nnu nwr mwa mke mma mth mtr nra nik), (mrf, .inl (cI, 8, .inl q_71))]) hP hD rfl
              clear hP hD
              obtain ⟨hP, hD⟩ := h9R
              obtain rfl := hr_69
              exact W.iret (v := (-5)) hx hb hr (fun t ht hW => ⟨⟨(-5), q_71, rfl, trivial, zRet ht hP hD [5, 6, 0, 1, 2, 3, 4] (by decide) rfl⟩, hS.F ht⟩) hS.2.2 dX8_meant_131
          · have fc_67 : (-1) ≤ i.toInt := zf_nlt c_67 rfl (by decide)
            refine lv_iload_n hx hb dX8_meant_111 rfl (lv_at hl 4 rfl) ?_
            refine lv_iload_n hx hb dX8_meant_112 rfl (lv_at hl 3 rfl) ?_
            refine lv_icmp_lt (tgt := 120) hx hb dX8_meant_113 (by decide) (fun c_72 => ?_) (fun c_72 => ?_)
            · have fc_72 : i.toInt < n.toInt := zf_lt c_72 rfl rfl
              refine lv_iload hx hb dX8_meant_120 (lv_at hl 5 rfl) ?_
              refine lv_if_eq (tgt := 132) hx hb dX8_meant_122 (by decide) (fun c_73 => ?_) (fun c_73 => ?_)
              · have fc_73 : v_41.toInt = 0 := zf_eq c_73 rfl (by decide)
                exact hcut132 H locs ls  hP hD hS (lv_sub hl [1, 2, 3, 4] rfl) (by first | omega | assumption | (simp; done) | (simp; omega))
              · exfalso; have fc_73 : v_41.toInt ≠ 0 := zf_ne c_73 rfl (by decide); omega
            · have fc_72 : n.toInt ≤ i.toInt := zf_nlt c_72 rfl rfl
              refine lv_bipush (v := (-5)) hx hb dX8_meant_116 (by decide) ?_
              refine lv_istore (lv' := [(4, .int (-5)), (5, .int i_58), (0, .ref m0), (1, .int s_), (2, .int n), (3, .int i)]) hx hb dX8_meant_118 hl (by decide) rfl (fun ls hl => ?_)
              refine lv_iload hx hb dX8_meant_120 (lv_at hl 0 rfl) ?_
              refine lv_if_eq (tgt := 132) hx hb dX8_meant_122 (by decide) (fun c_74 => ?_) (fun c_74 => ?_)
              · exact absurd c_74 (by decide)
              · refine lv_aload_n hx hb dX8_meant_125 rfl (lv_at hl 2 rfl) ?_
                refine lv_iload hx hb dX8_meant_126 (lv_at hl 0 rfl) ?_
                skip
                refine zw_V (As := [.int (-5)]) (rest := []) (wr := [(mhe, .inl (cI, 8, .inl ghe)), (msi, .inl (cI, 8, .inl gsi)), (mce, .inl (cJ, 1280, .inr (.inl gce))), (mki, .inl (cI, 8, .inl gki)), (mpa, .inl (cI, 8, .inl gpa))]) ⟨hx, hb, hml, hown, hts⟩ (c_M_no_5 l D cI cJ cZ cP cS po m0 mrf mki mpa mta mla msl mco mhe mso msi msh mce mca mwo mnu mte mwa mke mma mth mtr (npu) (nte) (nat_) (nde) (nto) (nse) (nhu) (nga) (nsd) (nfa) (nba) (npl) (nen) (nnu) (nwr) (nra) (nik) grf hy0 hy1 hy2 hy3 hy4 hy5 hy6 hy7 hy8 hy9 hy10 hy11 hy12 hy13 H.size) (cwV 1 hts gX8_meant_X8_no rfl rfl rfl ⟨rfl, dh_X8_no⟩ ⟨Nat.le_of_ble_eq_true rfl, Nat.le_of_ble_eq_true rfl⟩) hK hN (hZ.kept hS) hP hD hS hA [0, 1] [2, 3, 4, 5, 6] rfl rfl (by decide) (by decide) (by decide) (va_recv (q := (RX8, TX8, 38)) hK hP (ci := 8) (q0 := 0) rfl rfl) rfl hl.1 rfl (Nat.le_of_ble_eq_true rfl) dX8_meant_128 ⟨Nat.le_of_ble_eq_true rfl, Nat.le_of_ble_eq_true rfl⟩ (fun r_75 u_76 H locs hr_75 hP hD hS => ?_)
                obtain ⟨q_77, rfl⟩ : ∃ z, z = u_76 := ⟨_, rfl⟩
                have h9R := zRe (ws' := [(mhe, .inl (cI, 8, .inl ghe)), (msi, .inl (cI, 8, .inl gsi)), (mce, .inl (cJ, 1280, .inr (.inl gce))), (mki, .inl (cI, 8, .inl gki)), (mpa, .inl (cI, 8, .inl gpa)), (zMO m0 npu nte nat_ nde nto nse nhu nga nsd nfa mrf mki mpa mta mla msl mco mhe mso msi msh mce mca mwo mnu mte nba npl nen nnu nwr mwa mke mma mth mtr nra nik), (mrf, .inl (cI, 8, .inl q_77))]) hP hD rfl
                clear hP hD
                obtain ⟨hP, hD⟩ := h9R
                obtain rfl := hr_75
                exact W.iret (v := (-5)) hx hb hr (fun t ht hW => ⟨⟨(-5), q_77, rfl, trivial, zRet ht hP hD [5, 6, 0, 1, 2, 3, 4] (by decide) rfl⟩, hS.F ht⟩) hS.2.2 dX8_meant_131
      · have fc_60 : i_58.toInt < n.toInt := zf_nle c_60 rfl rfl
        refine lv_iload hx hb dX8_meant_64 (lv_at hl 5 rfl) ?_
        refine lv_if_ne (tgt := 101) hx hb dX8_meant_66 (by decide) (fun c_78 => ?_) (fun c_78 => ?_)
        · have fc_78 : v_41.toInt ≠ 0 := zf_ne c_78 rfl (by decide)
          refine lv_iload hx hb dX8_meant_101 (lv_at hl 5 rfl) ?_
          refine lv_if_ne (tgt := 120) hx hb dX8_meant_103 (by decide) (fun c_79 => ?_) (fun c_79 => ?_)
          · have fc_79 : v_41.toInt ≠ 0 := zf_ne c_79 rfl (by decide)
            refine lv_iload hx hb dX8_meant_120 (lv_at hl 5 rfl) ?_
            refine lv_if_eq (tgt := 132) hx hb dX8_meant_122 (by decide) (fun c_80 => ?_) (fun c_80 => ?_)
            · exfalso; have fc_80 : v_41.toInt = 0 := zf_eq c_80 rfl (by decide); omega
            · have fc_80 : v_41.toInt ≠ 0 := zf_ne c_80 rfl (by decide)
              refine lv_aload_n hx hb dX8_meant_125 rfl (lv_at hl 1 rfl) ?_
              refine lv_iload hx hb dX8_meant_126 (lv_at hl 5 rfl) ?_
              skip
              refine zw_V (As := [.int v_41]) (rest := []) (wr := [(mhe, .inl (cI, 8, .inl ghe)), (msi, .inl (cI, 8, .inl gsi)), (mce, .inl (cJ, 1280, .inr (.inl gce))), (mki, .inl (cI, 8, .inl gki)), (mpa, .inl (cI, 8, .inl gpa))]) ⟨hx, hb, hml, hown, hts⟩ (c_M_no l D cI cJ cZ cP cS po m0 mrf mki mpa mta mla msl mco mhe mso msi msh mce mca mwo mnu mte mwa mke mma mth mtr (npu) (nte) (nat_) (nde) (nto) (nse) (nhu) (nga) (nsd) (nfa) (nba) (npl) (nen) (nnu) (nwr) (nra) (nik) grf (v_41) hy0 hy1 hy2 hy3 hy4 hy5 hy6 hy7 hy8 hy9 hy10 hy11 hy12 hy13 (by omega) (by omega) H.size) (cwV 1 hts gX8_meant_X8_no rfl rfl rfl ⟨rfl, dh_X8_no⟩ ⟨Nat.le_of_ble_eq_true rfl, Nat.le_of_ble_eq_true rfl⟩) hK hN (hZ.kept hS) hP hD hS hA [0, 1] [2, 3, 4, 5, 6] rfl rfl (by decide) (by decide) (by decide) (va_recv (q := (RX8, TX8, 38)) hK hP (ci := 8) (q0 := 0) rfl rfl) rfl hl.1 rfl (Nat.le_of_ble_eq_true rfl) dX8_meant_128 ⟨Nat.le_of_ble_eq_true rfl, Nat.le_of_ble_eq_true rfl⟩ (fun r_81 u_82 H locs hr_81 hP hD hS => ?_)
              obtain ⟨q_83, rfl⟩ : ∃ z, z = u_82 := ⟨_, rfl⟩
              have h9R := zRe (ws' := [(mhe, .inl (cI, 8, .inl ghe)), (msi, .inl (cI, 8, .inl gsi)), (mce, .inl (cJ, 1280, .inr (.inl gce))), (mki, .inl (cI, 8, .inl gki)), (mpa, .inl (cI, 8, .inl gpa)), (zMO m0 npu nte nat_ nde nto nse nhu nga nsd nfa mrf mki mpa mta mla msl mco mhe mso msi msh mce mca mwo mnu mte nba npl nen nnu nwr mwa mke mma mth mtr nra nik), (mrf, .inl (cI, 8, .inl q_83))]) hP hD rfl
              clear hP hD
              obtain ⟨hP, hD⟩ := h9R
              have w_84 := hr_81
              obtain rfl : v_41 = r_81 := w_84.symm
              exact W.iret (v := v_41) hx hb hr (fun t ht hW => ⟨⟨v_41, q_83, rfl, trivial, zRet ht hP hD [5, 6, 0, 1, 2, 3, 4] (by decide) rfl⟩, hS.F ht⟩) hS.2.2 dX8_meant_131
          · exfalso; have fc_79 : v_41.toInt = 0 := zf_eq c_79 rfl (by decide); omega
        · have fc_78 : v_41.toInt = 0 := zf_eq c_78 rfl (by decide)
          refine lv_aload_n hx hb dX8_meant_69 rfl (lv_at hl 1 rfl) ?_
          refine lv_iload_n hx hb dX8_meant_70 rfl (lv_at hl 2 rfl) ?_
          refine lv_iload hx hb dX8_meant_71 (lv_at hl 0 rfl) ?_
          refine zc_V (As := [.int s_, .int i_58]) (rest := []) ⟨hx, hb, hml, hown, hts⟩ (c_M_intAt l D cI cJ cZ cP cS po m0 mrf mki mpa mta mla msl mco mhe mso msi msh mce mca mwo mnu mte mwa mke mma mth mtr (npu) (nte) (nat_) (nde) (nto) (nse) (nhu) (nga) (nsd) (nfa) (nba) (npl) (nen) (nnu) (nwr) (nra) (nik) gce (s_) (i_58) hy0 hy1 hy2 hy3 hy4 hy5 hy6 hy7 hy8 hy9 hy10 hy11 hy12 hy13 (by omega) (by omega) (by omega) (by omega)) (cwV 2 hts gX8_meant_X8_intAt rfl rfl rfl ⟨rfl, dh_X8_intAt⟩ ⟨Nat.le_of_ble_eq_true rfl, Nat.le_of_ble_eq_true rfl⟩) hK hN (hZ.kept hS) hP (hP.sub [0, 4] rfl) (va_recv (q := (RX8, TX8, 38)) hK hP (ci := 8) (q0 := 0) rfl rfl) rfl hl.1 rfl (Nat.le_of_ble_eq_true rfl) dX8_meant_73 ⟨Nat.le_of_ble_eq_true rfl, Nat.le_of_ble_eq_true rfl⟩ (fun r_85 hr_85 => ?_)
          refine lv_if_lt (tgt := 91) hx hb dX8_meant_76 (by decide) (fun c_86 => ?_) (fun c_86 => ?_)
          · have fc_86 : r_85.toInt < 0 := zf_lt c_86 rfl (by decide)
            refine lv_bipush (v := (-6)) hx hb dX8_meant_91 (by decide) ?_
            refine lv_istore (lv' := [(4, .int (-6)), (5, .int i_58), (0, .ref m0), (1, .int s_), (2, .int n), (3, .int i)]) hx hb dX8_meant_93 hl (by decide) rfl (fun ls hl => ?_)
            obtain ⟨x_87, ex_87⟩ : ∃ y : Int32, y = i_58 + 1 := ⟨_, rfl⟩
            have qx_87 : x_87.toInt = i_58.toInt + 1 := dw_inc ex_87 fc_60
            refine lv_iinc (v := x_87) (lv' := [(5, .int x_87), (4, .int (-6)), (0, .ref m0), (1, .int s_), (2, .int n), (3, .int i)]) hx hb dX8_meant_95 hl (k := 1) rfl ex_87.symm (by decide) rfl (fun ls hl => ?_)
            refine lv_goto (tgt := 58) hx hb dX8_meant_98 (by decide) ?_
            exact ih x_87 (-6) _ _ _ (hP.sub [0, 1, 2, 3, 4, 5, 6] rfl) (hD.sub [0, 1, 2, 3, 4, 5, 6] (by decide) rfl) hS (lv_sub hl [0, 2, 3, 4, 5, 1] rfl) ⟨by decide, by decide⟩ (show (((-6) : Int32).toInt = 0 → (0 ≤ s_.toInt ∧ s_.toInt ≤ 7) ∧ 1 ≤ n.toInt ∧ n.toInt ≤ 20) from by first | omega | exact fun h => absurd h (by decide)) (dw_lo hloi_58 qx_87) (dw_hn hni_58 qx_87)
          · have fc_86 : 0 ≤ r_85.toInt := zf_nlt c_86 rfl (by decide)
            refine lv_aload_n hx hb dX8_meant_79 rfl (lv_at hl 1 rfl) ?_
            refine lv_iload_n hx hb dX8_meant_80 rfl (lv_at hl 2 rfl) ?_
            refine lv_iload hx hb dX8_meant_81 (lv_at hl 0 rfl) ?_
            refine zc_V (As := [.int s_, .int i_58]) (rest := []) ⟨hx, hb, hml, hown, hts⟩ (c_M_intAt l D cI cJ cZ cP cS po m0 mrf mki mpa mta mla msl mco mhe mso msi msh mce mca mwo mnu mte mwa mke mma mth mtr (npu) (nte) (nat_) (nde) (nto) (nse) (nhu) (nga) (nsd) (nfa) (nba) (npl) (nen) (nnu) (nwr) (nra) (nik) gce (s_) (i_58) hy0 hy1 hy2 hy3 hy4 hy5 hy6 hy7 hy8 hy9 hy10 hy11 hy12 hy13 (by omega) (by omega) (by omega) (by omega)) (cwV 2 hts gX8_meant_X8_intAt rfl rfl rfl ⟨rfl, dh_X8_intAt⟩ ⟨Nat.le_of_ble_eq_true rfl, Nat.le_of_ble_eq_true rfl⟩) hK hN (hZ.kept hS) hP (hP.sub [0, 4] rfl) (va_recv (q := (RX8, TX8, 38)) hK hP (ci := 8) (q0 := 0) rfl rfl) rfl hl.1 rfl (Nat.le_of_ble_eq_true rfl) dX8_meant_83 ⟨Nat.le_of_ble_eq_true rfl, Nat.le_of_ble_eq_true rfl⟩ (fun r_88 hr_88 => ?_)
            refine lv_bipush (v := 24) hx hb dX8_meant_86 (by decide) ?_
            refine lv_icmp_le (tgt := 95) hx hb dX8_meant_88 (by decide) (fun c_89 => ?_) (fun c_89 => ?_)
            · have fc_89 : r_88.toInt ≤ 24 := zf_le c_89 rfl (by decide)
              obtain ⟨x_90, ex_90⟩ : ∃ y : Int32, y = i_58 + 1 := ⟨_, rfl⟩
              have qx_90 : x_90.toInt = i_58.toInt + 1 := dw_inc ex_90 fc_60
              refine lv_iinc (v := x_90) (lv' := [(5, .int x_90), (0, .ref m0), (1, .int s_), (2, .int n), (3, .int i), (4, .int v_41)]) hx hb dX8_meant_95 hl (k := 0) rfl ex_90.symm (by decide) rfl (fun ls hl => ?_)
              refine lv_goto (tgt := 58) hx hb dX8_meant_98 (by decide) ?_
              exact ih x_90 v_41 _ _ _ (hP.sub [0, 1, 2, 3, 4, 5, 6] rfl) (hD.sub [0, 1, 2, 3, 4, 5, 6] (by decide) rfl) hS (lv_sub hl [0, 1, 2, 3, 4, 5] rfl) hbv_41 (show ((v_41 : Int32).toInt = 0 → (0 ≤ s_.toInt ∧ s_.toInt ≤ 7) ∧ 1 ≤ n.toInt ∧ n.toInt ≤ 20) from by first | omega | exact fun h => absurd h (by decide)) (dw_lo hloi_58 qx_90) (dw_hn hni_58 qx_90)
            · have fc_89 : 24 < r_88.toInt := zf_nle c_89 rfl (by decide)
              refine lv_bipush (v := (-6)) hx hb dX8_meant_91 (by decide) ?_
              refine lv_istore (lv' := [(4, .int (-6)), (5, .int i_58), (0, .ref m0), (1, .int s_), (2, .int n), (3, .int i)]) hx hb dX8_meant_93 hl (by decide) rfl (fun ls hl => ?_)
              obtain ⟨x_91, ex_91⟩ : ∃ y : Int32, y = i_58 + 1 := ⟨_, rfl⟩
              have qx_91 : x_91.toInt = i_58.toInt + 1 := dw_inc ex_91 fc_60
              refine lv_iinc (v := x_91) (lv' := [(5, .int x_91), (4, .int (-6)), (0, .ref m0), (1, .int s_), (2, .int n), (3, .int i)]) hx hb dX8_meant_95 hl (k := 1) rfl ex_91.symm (by decide) rfl (fun ls hl => ?_)
              refine lv_goto (tgt := 58) hx hb dX8_meant_98 (by decide) ?_
              exact ih x_91 (-6) _ _ _ (hP.sub [0, 1, 2, 3, 4, 5, 6] rfl) (hD.sub [0, 1, 2, 3, 4, 5, 6] (by decide) rfl) hS (lv_sub hl [0, 2, 3, 4, 5, 1] rfl) ⟨by decide, by decide⟩ (show (((-6) : Int32).toInt = 0 → (0 ≤ s_.toInt ∧ s_.toInt ≤ 7) ∧ 1 ≤ n.toInt ∧ n.toInt ≤ 20) from by first | omega | exact fun h => absurd h (by decide)) (dw_lo hloi_58 qx_91) (dw_hn hni_58 qx_91)
  refine lv_aload_n hx hb dX8_meant_0 rfl (lv_at hl 0 rfl) ?_
  refine lv_iload_n hx hb dX8_meant_1 rfl (lv_at hl 1 rfl) ?_
  refine zc_V (As := [.int s_]) (rest := []) ⟨hx, hb, hml, hown, hts⟩ (c_M_wanted l D cI cJ cZ cP cS po m0 mrf mki mpa mta mla msl mco mhe mso msi msh mce mca mwo mnu mte mwa mke mma mth mtr (npu) (nte) (nat_) (nde) (nto) (nse) (nhu) (nga) (nsd) (nfa) (nba) (npl) (nen) (nnu) (nwr) (nra) (nik) ghe (s_) hy0 hy1 hy2 hy3 hy4 hy5 hy6 hy7 hy8 hy9 hy10 hy11 hy12 hy13 hp_ghe) (cwV 1 hts gX8_meant_X8_wanted rfl rfl rfl ⟨rfl, dh_X8_wanted⟩ ⟨Nat.le_of_ble_eq_true rfl, Nat.le_of_ble_eq_true rfl⟩) hK hN (hZ.kept hS) hP (hP.sub [0, 2] rfl) (va_recv (q := (RX8, TX8, 38)) hK hP (ci := 8) (q0 := 0) rfl rfl) rfl hl.1 rfl (Nat.le_of_ble_eq_true rfl) dX8_meant_2 ⟨Nat.le_of_ble_eq_true rfl, Nat.le_of_ble_eq_true rfl⟩ (fun r_92 hr_92 => ?_)
  rcases hr_92 with ⟨rfl, g_93⟩ | ⟨rfl, g_94, g_95⟩ | ⟨rfl, g_96, g_97⟩ | ⟨rfl, g_98, g_99⟩ | ⟨rfl, g_100, g_101⟩
  · refine lv_istore (lv' := [(4, .int (-1)), (0, .ref m0), (1, .int s_), (2, .int n), (3, .int i)]) hx hb dX8_meant_5 hl (by decide) rfl (fun ls hl => ?_)
    refine lv_iload hx hb dX8_meant_7 (lv_at hl 0 rfl) ?_
    refine lv_if_ne (tgt := 55) hx hb dX8_meant_9 (by decide) (fun c_102 => ?_) (fun c_102 => ?_)
    · exact hcut55 H locs ls ((-1) : Int32) hP hD hS (lv_sub hl [1, 2, 3, 4, 0] rfl) (by first | omega | assumption | (simp; done) | (simp; omega)) (by first | omega | assumption | (simp; done) | (simp; omega))
    · exact absurd c_102 (by decide)
  · refine lv_istore (lv' := [(4, .int (-1)), (0, .ref m0), (1, .int s_), (2, .int n), (3, .int i)]) hx hb dX8_meant_5 hl (by decide) rfl (fun ls hl => ?_)
    refine lv_iload hx hb dX8_meant_7 (lv_at hl 0 rfl) ?_
    refine lv_if_ne (tgt := 55) hx hb dX8_meant_9 (by decide) (fun c_103 => ?_) (fun c_103 => ?_)
    · exact hcut55 H locs ls ((-1) : Int32) hP hD hS (lv_sub hl [1, 2, 3, 4, 0] rfl) (by first | omega | assumption | (simp; done) | (simp; omega)) (by first | omega | assumption | (simp; done) | (simp; omega))
    · exact absurd c_103 (by decide)
  · refine lv_istore (lv' := [(4, .int 0), (0, .ref m0), (1, .int s_), (2, .int n), (3, .int i)]) hx hb dX8_meant_5 hl (by decide) rfl (fun ls hl => ?_)
    refine lv_iload hx hb dX8_meant_7 (lv_at hl 0 rfl) ?_
    refine lv_if_ne (tgt := 55) hx hb dX8_meant_9 (by decide) (fun c_104 => ?_) (fun c_104 => ?_)
    · exact absurd c_104 (by decide)
    · refine lv_iload_n hx hb dX8_meant_12 rfl (lv_at hl 3 rfl) ?_
      refine lv_if_ge (tgt := 21) hx hb dX8_meant_13 (by decide) (fun c_105 => ?_) (fun c_105 => ?_)
      · have fc_105 : 0 ≤ n.toInt := zf_le c_105 (by decide) rfl
        refine lv_iload_n hx hb dX8_meant_21 rfl (lv_at hl 3 rfl) ?_
        refine lv_aload_n hx hb dX8_meant_22 rfl (lv_at hl 1 rfl) ?_
        refine va_get (D := D) (ci := 8) (v := .ref msi) (C := RX8) (T := TX8) (N := 38) hx hb hts hi_X8_meant_8 hown hK hP 0 rfl rfl 19 (by decide) (hts (.fieldLink RX8 53 "TheLiningsInItModel" "size" "[I") (List.mem_of_getElem? (i := 1) rfl)) (fun _ h9 => h9) rfl dX8_meant_23 ?_
        refine lv_iload_n hx hb dX8_meant_26 rfl (lv_at hl 2 rfl) ?_
        refine va_iald hx hb hK hP 3 0 rfl rfl (zf_in (by omega) (by omega)) dX8_meant_27 ?_
        refine lv_topi (fun x_106 ex_106 => ?_)
        have bx_106 : 0 ≤ x_106.toInt ∧ x_106.toInt ≤ 160 := by rw [ex_106]; exact hp_gsi _
        refine lv_icmp_le (tgt := 36) hx hb dX8_meant_28 (by decide) (fun c_107 => ?_) (fun c_107 => ?_)
        · have fc_107 : n.toInt ≤ x_106.toInt := zf_le c_107 rfl rfl
          refine lv_iload_n hx hb dX8_meant_36 rfl (lv_at hl 3 rfl) ?_
          refine lv_iconst (v := 1) hx hb dX8_meant_37 (by decide) ?_
          refine lv_icmp_lt (tgt := 47) hx hb dX8_meant_38 (by decide) (fun c_108 => ?_) (fun c_108 => ?_)
          · have fc_108 : n.toInt < 1 := zf_lt c_108 rfl (by decide)
            refine lv_bipush (v := (-6)) hx hb dX8_meant_47 (by decide) ?_
            refine lv_goto (tgt := 53) hx hb dX8_meant_49 (by decide) ?_
            refine lv_istore (lv' := [(4, .int (-6)), (0, .ref m0), (1, .int s_), (2, .int n), (3, .int i)]) hx hb dX8_meant_53 hl (by decide) rfl (fun ls hl => ?_)
            exact hcut55 H locs ls ((-6) : Int32) hP hD hS (lv_sub hl [1, 2, 3, 4, 0] rfl) (by first | omega | assumption | (simp; done) | (simp; omega)) (by first | omega | assumption | (simp; done) | (simp; omega))
          · have fc_108 : 1 ≤ n.toInt := zf_nlt c_108 rfl (by decide)
            refine lv_iload_n hx hb dX8_meant_41 rfl (lv_at hl 3 rfl) ?_
            refine lv_bipush (v := 20) hx hb dX8_meant_42 (by decide) ?_
            refine lv_icmp_le (tgt := 52) hx hb dX8_meant_44 (by decide) (fun c_109 => ?_) (fun c_109 => ?_)
            · have fc_109 : n.toInt ≤ 20 := zf_le c_109 rfl (by decide)
              refine lv_iconst (v := 0) hx hb dX8_meant_52 (by decide) ?_
              refine lv_istore (lv' := [(4, .int 0), (0, .ref m0), (1, .int s_), (2, .int n), (3, .int i)]) hx hb dX8_meant_53 hl (by decide) rfl (fun ls hl => ?_)
              exact hcut55 H locs ls (0 : Int32) hP hD hS (lv_sub hl [1, 2, 3, 4, 0] rfl) (by first | omega | assumption | (simp; done) | (simp; omega)) (by first | omega | assumption | (simp; done) | (simp; omega))
            · have fc_109 : 20 < n.toInt := zf_nle c_109 rfl (by decide)
              refine lv_bipush (v := (-6)) hx hb dX8_meant_47 (by decide) ?_
              refine lv_goto (tgt := 53) hx hb dX8_meant_49 (by decide) ?_
              refine lv_istore (lv' := [(4, .int (-6)), (0, .ref m0), (1, .int s_), (2, .int n), (3, .int i)]) hx hb dX8_meant_53 hl (by decide) rfl (fun ls hl => ?_)
              exact hcut55 H locs ls ((-6) : Int32) hP hD hS (lv_sub hl [1, 2, 3, 4, 0] rfl) (by first | omega | assumption | (simp; done) | (simp; omega)) (by first | omega | assumption | (simp; done) | (simp; omega))
        · have fc_107 : x_106.toInt < n.toInt := zf_nle c_107 rfl rfl
          refine lv_bipush (v := (-5)) hx hb dX8_meant_31 (by decide) ?_
          refine lv_goto (tgt := 53) hx hb dX8_meant_33 (by decide) ?_
          refine lv_istore (lv' := [(4, .int (-5)), (0, .ref m0), (1, .int s_), (2, .int n), (3, .int i)]) hx hb dX8_meant_53 hl (by decide) rfl (fun ls hl => ?_)
          exact hcut55 H locs ls ((-5) : Int32) hP hD hS (lv_sub hl [1, 2, 3, 4, 0] rfl) (by first | omega | assumption | (simp; done) | (simp; omega)) (by first | omega | assumption | (simp; done) | (simp; omega))
      · have fc_105 : n.toInt < 0 := zf_nle c_105 (by decide) rfl
        refine lv_bipush (v := (-4)) hx hb dX8_meant_16 (by decide) ?_
        refine lv_goto (tgt := 53) hx hb dX8_meant_18 (by decide) ?_
        refine lv_istore (lv' := [(4, .int (-4)), (0, .ref m0), (1, .int s_), (2, .int n), (3, .int i)]) hx hb dX8_meant_53 hl (by decide) rfl (fun ls hl => ?_)
        exact hcut55 H locs ls ((-4) : Int32) hP hD hS (lv_sub hl [1, 2, 3, 4, 0] rfl) (by first | omega | assumption | (simp; done) | (simp; omega)) (by first | omega | assumption | (simp; done) | (simp; omega))
  · refine lv_istore (lv' := [(4, .int (-3)), (0, .ref m0), (1, .int s_), (2, .int n), (3, .int i)]) hx hb dX8_meant_5 hl (by decide) rfl (fun ls hl => ?_)
    refine lv_iload hx hb dX8_meant_7 (lv_at hl 0 rfl) ?_
    refine lv_if_ne (tgt := 55) hx hb dX8_meant_9 (by decide) (fun c_110 => ?_) (fun c_110 => ?_)
    · exact hcut55 H locs ls ((-3) : Int32) hP hD hS (lv_sub hl [1, 2, 3, 4, 0] rfl) (by first | omega | assumption | (simp; done) | (simp; omega)) (by first | omega | assumption | (simp; done) | (simp; omega))
    · exact absurd c_110 (by decide)
  · refine lv_istore (lv' := [(4, .int (-2)), (0, .ref m0), (1, .int s_), (2, .int n), (3, .int i)]) hx hb dX8_meant_5 hl (by decide) rfl (fun ls hl => ?_)
    refine lv_iload hx hb dX8_meant_7 (lv_at hl 0 rfl) ?_
    refine lv_if_ne (tgt := 55) hx hb dX8_meant_9 (by decide) (fun c_111 => ?_) (fun c_111 => ?_)
    · exact hcut55 H locs ls ((-2) : Int32) hP hD hS (lv_sub hl [1, 2, 3, 4, 0] rfl) (by first | omega | assumption | (simp; done) | (simp; omega)) (by first | omega | assumption | (simp; done) | (simp; omega))
    · exact absurd c_111 (by decide)

