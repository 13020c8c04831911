section
set_option maxHeartbeats 4000000 in
set_option maxRecDepth 100000 in
theorem c_F_M_row (l : Launch) (D : va_G) (cI cJ cZ cP cS : ClassId) (po : zPool) (m0 mrf mki mpa mta mla msl mco mhe mso msi msh mce mca mwo mnu mte mwa mke mma mth mtr : Nat) (npu nte nat_ nde nto nse nhu nga nsd nfa nba npl nen nnu nwr nra nik : Int32) (grf ghe gso gsi gsh : Nat → Int32) (gce : Nat → Int64) (s_ o n : Int32) (hy0 : 0 ≤ npu.toInt) (hy1 : npu.toInt ≤ 8) (hy2 : 4 ≤ nte.toInt) (hy3 : nte.toInt ≤ 40) (hy4 : 0 ≤ nat_.toInt) (hy5 : nat_.toInt ≤ 40) (hy6 : 0 ≤ nde.toInt) (hy7 : nde.toInt ≤ 24) (hy8 : 0 ≤ nhu.toInt) (hy9 : nhu.toInt ≤ 9) (hy10 : 0 ≤ nra.toInt) (hy11 : nra.toInt ≤ 2000) (hy12 : 0 ≤ nik.toInt) (hy13 : nik.toInt ≤ 1) (hHS : zHS ghe gsh) (hp_ghe : zRg ghe (0) 2) (hp_gso : zRg gso (0) 3) (hp_gsi : zRg gsi (0) 160) (hp_gsh : zRg gsh (-1) 7) (hpz : Nat) : Met l yX8_row wsX8_row ({ frames := 1, cells := 0, slots := 0, locals := 21 }) (va_Pc [.ref m0, .int s_, .int o, .int n] (zW D (zKT cI cJ cZ cP cS) po [(zMO m0 npu nte nat_ nde nto nse nhu nga nsd nfa mrf mki mpa mta mla msl mco mhe mso msi msh mce mca mwo mnu mte nba npl nen nnu nwr mwa mke mma mth mtr nra nik), (mrf, .inl (cI, 8, .inl grf)), (mhe, .inl (cI, 8, .inl ghe)), (mso, .inl (cI, 8, .inl gso)), (msi, .inl (cI, 8, .inl gsi)), (msh, .inl (cI, 8, .inl gsh)), (mce, .inl (cJ, 1280, .inr (.inl gce)))] hpz)) (va_Qi (fun (r : Int32) (u : (Nat → Int32) × (Nat → Int32) × (Nat → Int32) × (Nat → Int32) × (Nat → Int64)) => zRg u.2.1 (0) 2 ∧ zRg u.2.2.1 (0) 3 ∧ zRg u.2.2.2.1 (0) 160 ∧ (r.toInt = zRow s_.toInt o.toInt n.toInt) ∧ (zHS u.2.1 gsh) ∧ ((r.toInt = 1 → u.2.1 = upd ghe s_.toNatClampNeg 1 ∧ u.2.2.1 = upd gso s_.toNatClampNeg o ∧ u.2.2.2.1 = upd gsi s_.toNatClampNeg n ∧ ∀ j : Nat, u.2.2.2.2 j = (if 160 * s_.toNatClampNeg ≤ j ∧ j < 160 * s_.toNatClampNeg + 160 then 0 else gce j))) ∧ ((r.toInt ≠ 1 → u.2.1 = ghe ∧ u.2.2.1 = gso ∧ u.2.2.2.1 = gsi ∧ u.2.2.2.2 = gce)) ∧ (True)) (zB D [(zMO m0 npu nte nat_ nde nto nse nhu nga nsd nfa mrf mki mpa mta mla msl mco mhe mso msi msh mce mca mwo mnu mte nba npl nen nnu nwr mwa mke mma mth mtr nra nik), (mrf, .inl (cI, 8, .inl grf)), (mhe, .inl (cI, 8, .inl ghe)), (mso, .inl (cI, 8, .inl gso)), (msi, .inl (cI, 8, .inl gsi)), (msh, .inl (cI, 8, .inl gsh)), (mce, .inl (cJ, 1280, .inr (.inl gce)))] hpz (fun (u : (Nat → Int32) × (Nat → Int32) × (Nat → Int32) × (Nat → Int32) × (Nat → Int64)) => [(zMO m0 npu nte nat_ nde nto nse nhu nga nsd nfa mrf mki mpa mta mla msl mco mhe mso msi msh mce mca mwo mnu mte nba npl nen nnu nwr mwa mke mma mth mtr nra nik), (mrf, .inl (cI, 8, .inl u.1)), (mhe, .inl (cI, 8, .inl u.2.1)), (mso, .inl (cI, 8, .inl u.2.2.1)), (msi, .inl (cI, 8, .inl u.2.2.2.1)), (msh, .inl (cI, 8, .inl gsh)), (mce, .inl (cJ, 1280, .inr (.inl u.2.2.2.2)))])) (va_A [(zMO m0 npu nte nat_ nde nto nse nhu nga nsd nfa mrf mki mpa mta mla msl mco mhe mso msi msh mce mca mwo mnu mte nba npl nen nnu nwr mwa mke mma mth mtr nra nik), (mrf, .inl (cI, 8, .inl grf)), (mhe, .inl (cI, 8, .inl ghe)), (mso, .inl (cI, 8, .inl gso)), (msi, .inl (cI, 8, .inl gsi)), (msh, .inl (cI, 8, .inl gsh)), (mce, .inl (cJ, 1280, .inr (.inl gce)))] hpz)) 0 0 (va_A [(zMO m0 npu nte nat_ nde nto nse nhu nga nsd nfa mrf mki mpa mta mla msl mco mhe mso msi msh mce mca mwo mnu mte nba npl nen nnu nwr mwa mke mma mth mtr nra nik), (mrf, .inl (cI, 8, .inl grf)), (mhe, .inl (cI, 8, .inl ghe)), (mso, .inl (cI, 8, .inl gso)), (msi, .inl (cI, 8, .inl gsi)), (msh, .inl (cI, 8, .inl gsh)), (mce, .inl (cJ, 1280, .inr (.inl gce)))] hpz) := by
  refine Met.ofW (cc := cX8_row) (maxL := 5) (ret := (some .int)) (by decide) rfl ?_
  intro p e s m args below meth c s₁ B hml hv
  obtain ⟨rfl, hsz, hP, hK, hD0, hN, hZ⟩ := hv
  have hx := B.exec
  have hb := B.bytes
  have hr := B.returns
  have hts := atoms_spec (ws := wsX8_row) B.pre
  have hown : s.vm.findClass RX8 = some m.cls := findClass_of_methodNamed B.named
  have hlocks := B.notSynchronized
  subst hsz
  have hD := hD0.self (sz := s.heap.size)
  have hA := zA_of hD
  have hl := lv_entry ([.ref m0, .int s_, .int o, .int n]) (n := 5) (Nat.le_of_ble_eq_true rfl)
  rw [lg_entry_eq]
  generalize (lg_sl ([.ref m0, .int s_, .int o, .int n]) ++ List.replicate (5 - (lg_sl ([.ref m0, .int s_, .int o, .int n])).length) Slot.unset).toArray = ls at hl ⊢
  replace hl : lv_has ls 5 [(0, .ref m0), (1, .int s_), (2, .int o), (3, .int n)] := hl
  refine zw_begin hP hD (fun H locs hP1 hS => ?_)
  clear hP
  have hP := hP1
  clear hP1
  refine lv_aload_n hx hb dX8_row_0 rfl (lv_at hl 0 rfl) ?_
  refine lv_iload_n hx hb dX8_row_1 rfl (lv_at hl 1 rfl) ?_
  refine zc_V (As := [.int s_]) (rest := []) ⟨hx, hb, hml, hown, hts⟩ (c_M_isShelf l D cI cJ cZ cP cS po m0 mrf mki mpa mta mla msl mco mhe mso msi msh mce mca mwo mnu mte mwa mke mma mth mtr (npu) (nte) (nat_) (nde) (nto) (nse) (nhu) (nga) (nsd) (nfa) (nba) (npl) (nen) (nnu) (nwr) (nra) (nik) (s_) hy0 hy1 hy2 hy3 hy4 hy5 hy6 hy7 hy8 hy9 hy10 hy11 hy12 hy13) (cwV 1 hts gX8_row_X8_isShelf rfl rfl rfl ⟨rfl, dh_X8_isShelf⟩ ⟨Nat.le_of_ble_eq_true rfl, Nat.le_of_ble_eq_true rfl⟩) hK hN (hZ.kept hS) hP (hP.sub [0] rfl) (va_recv (q := (RX8, TX8, 38)) hK hP (ci := 8) (q0 := 0) rfl rfl) rfl hl.1 rfl (Nat.le_of_ble_eq_true rfl) dX8_row_2 ⟨Nat.le_of_ble_eq_true rfl, Nat.le_of_ble_eq_true rfl⟩ (fun r_1 hr_1 => ?_)
  rcases hr_1 with ⟨rfl, g_2⟩ | ⟨rfl, g_3, g_4⟩ | ⟨rfl, g_5, g_6⟩
  · refine lv_if_ne (tgt := 14) hx hb dX8_row_5 (by decide) (fun c_7 => ?_) (fun c_7 => ?_)
    · exact absurd c_7 (by decide)
    · refine lv_aload_n hx hb dX8_row_8 rfl (lv_at hl 0 rfl) ?_
      refine lv_iconst (v := (-1)) hx hb dX8_row_9 (by decide) ?_
      skip
      refine zw_V (As := [.int (-1)]) (rest := []) (wr := [(mhe, .inl (cI, 8, .inl ghe)), (mso, .inl (cI, 8, .inl gso)), (msi, .inl (cI, 8, .inl gsi)), (msh, .inl (cI, 8, .inl gsh)), (mce, .inl (cJ, 1280, .inr (.inl gce)))]) ⟨hx, hb, hml, hown, hts⟩ (c_M_no_1 l D cI cJ cZ cP cS po m0 mrf mki mpa mta mla msl mco mhe mso msi msh mce mca mwo mnu mte mwa mke mma mth mtr (npu) (nte) (nat_) (nde) (nto) (nse) (nhu) (nga) (nsd) (nfa) (nba) (npl) (nen) (nnu) (nwr) (nra) (nik) grf hy0 hy1 hy2 hy3 hy4 hy5 hy6 hy7 hy8 hy9 hy10 hy11 hy12 hy13 H.size) (cwV 1 hts gX8_row_X8_no rfl rfl rfl ⟨rfl, dh_X8_no⟩ ⟨Nat.le_of_ble_eq_true rfl, Nat.le_of_ble_eq_true rfl⟩) hK hN (hZ.kept hS) hP hD hS hA [0, 1] [2, 3, 4, 5, 6] rfl rfl (by decide) (by decide) (by decide) (va_recv (q := (RX8, TX8, 38)) hK hP (ci := 8) (q0 := 0) rfl rfl) rfl hl.1 rfl (Nat.le_of_ble_eq_true rfl) dX8_row_10 ⟨Nat.le_of_ble_eq_true rfl, Nat.le_of_ble_eq_true rfl⟩ (fun r_8 u_9 H locs hr_8 hP hD hS => ?_)
      obtain ⟨q_10, rfl⟩ : ∃ z, z = u_9 := ⟨_, rfl⟩
      have h9R := zRe (ws' := [(mhe, .inl (cI, 8, .inl ghe)), (mso, .inl (cI, 8, .inl gso)), (msi, .inl (cI, 8, .inl gsi)), (msh, .inl (cI, 8, .inl gsh)), (mce, .inl (cJ, 1280, .inr (.inl gce))), (zMO m0 npu nte nat_ nde nto nse nhu nga nsd nfa mrf mki mpa mta mla msl mco mhe mso msi msh mce mca mwo mnu mte nba npl nen nnu nwr mwa mke mma mth mtr nra nik), (mrf, .inl (cI, 8, .inl q_10))]) hP hD rfl
      clear hP hD
      obtain ⟨hP, hD⟩ := h9R
      obtain rfl := hr_8
      exact W.iret (v := (-1)) hx hb hr (fun t ht hW => ⟨⟨(-1), (q_10, ghe, gso, gsi, gce), rfl, ⟨hp_ghe, hp_gso, hp_gsi, (show ((-1) : Int32).toInt = zRow s_.toInt o.toInt n.toInt from by (have k9 : ((-1) : Int32).toInt = -1 := (by decide); unfold zRow; (repeat (first | rw [if_pos (by omega)] | rw [if_neg (by omega)])) <;> omega)), (show zHS ghe gsh from by exact hHS), (show (((-1) : Int32).toInt = 1 → ghe = upd ghe s_.toNatClampNeg 1 ∧ gso = upd gso s_.toNatClampNeg o ∧ gsi = upd gsi s_.toNatClampNeg n ∧ ∀ j : Nat, gce j = (if 160 * s_.toNatClampNeg ≤ j ∧ j < 160 * s_.toNatClampNeg + 160 then 0 else gce j)) from by (have k9 : ((-1) : Int32).toInt = -1 := (by decide); intro h; exfalso; omega)), (show (((-1) : Int32).toInt ≠ 1 → ghe = ghe ∧ gso = gso ∧ gsi = gsi ∧ gce = gce) from by (have k9 : ((-1) : Int32).toInt = -1 := (by decide); intro h; exact ⟨rfl, rfl, rfl, rfl⟩)), trivial⟩, zRet ht hP hD [5, 6, 0, 1, 2, 3, 4] (by decide) rfl⟩, hS.F ht⟩) hS.2.2 dX8_row_13
  · refine lv_if_ne (tgt := 14) hx hb dX8_row_5 (by decide) (fun c_11 => ?_) (fun c_11 => ?_)
    · exact absurd c_11 (by decide)
    · refine lv_aload_n hx hb dX8_row_8 rfl (lv_at hl 0 rfl) ?_
      refine lv_iconst (v := (-1)) hx hb dX8_row_9 (by decide) ?_
      skip
      refine zw_V (As := [.int (-1)]) (rest := []) (wr := [(mhe, .inl (cI, 8, .inl ghe)), (mso, .inl (cI, 8, .inl gso)), (msi, .inl (cI, 8, .inl gsi)), (msh, .inl (cI, 8, .inl gsh)), (mce, .inl (cJ, 1280, .inr (.inl gce)))]) ⟨hx, hb, hml, hown, hts⟩ (c_M_no_1 l D cI cJ cZ cP cS po m0 mrf mki mpa mta mla msl mco mhe mso msi msh mce mca mwo mnu mte mwa mke mma mth mtr (npu) (nte) (nat_) (nde) (nto) (nse) (nhu) (nga) (nsd) (nfa) (nba) (npl) (nen) (nnu) (nwr) (nra) (nik) grf hy0 hy1 hy2 hy3 hy4 hy5 hy6 hy7 hy8 hy9 hy10 hy11 hy12 hy13 H.size) (cwV 1 hts gX8_row_X8_no rfl rfl rfl ⟨rfl, dh_X8_no⟩ ⟨Nat.le_of_ble_eq_true rfl, Nat.le_of_ble_eq_true rfl⟩) hK hN (hZ.kept hS) hP hD hS hA [0, 1] [2, 3, 4, 5, 6] rfl rfl (by decide) (by decide) (by decide) (va_recv (q := (RX8, TX8, 38)) hK hP (ci := 8) (q0 := 0) rfl rfl) rfl hl.1 rfl (Nat.le_of_ble_eq_true rfl) dX8_row_10 ⟨Nat.le_of_ble_eq_true rfl, Nat.le_of_ble_eq_true rfl⟩ (fun r_12 u_13 H locs hr_12 hP hD hS => ?_)
      obtain ⟨q_14, rfl⟩ : ∃ z, z = u_13 := ⟨_, rfl⟩
      have h9R := zRe (ws' := [(mhe, .inl (cI, 8, .inl ghe)), (mso, .inl (cI, 8, .inl gso)), (msi, .inl (cI, 8, .inl gsi)), (msh, .inl (cI, 8, .inl gsh)), (mce, .inl (cJ, 1280, .inr (.inl gce))), (zMO m0 npu nte nat_ nde nto nse nhu nga nsd nfa mrf mki mpa mta mla msl mco mhe mso msi msh mce mca mwo mnu mte nba npl nen nnu nwr mwa mke mma mth mtr nra nik), (mrf, .inl (cI, 8, .inl q_14))]) hP hD rfl
      clear hP hD
      obtain ⟨hP, hD⟩ := h9R
      obtain rfl := hr_12
      exact W.iret (v := (-1)) hx hb hr (fun t ht hW => ⟨⟨(-1), (q_14, ghe, gso, gsi, gce), rfl, ⟨hp_ghe, hp_gso, hp_gsi, (show ((-1) : Int32).toInt = zRow s_.toInt o.toInt n.toInt from by (have k9 : ((-1) : Int32).toInt = -1 := (by decide); unfold zRow; (repeat (first | rw [if_pos (by omega)] | rw [if_neg (by omega)])) <;> omega)), (show zHS ghe gsh from by exact hHS), (show (((-1) : Int32).toInt = 1 → ghe = upd ghe s_.toNatClampNeg 1 ∧ gso = upd gso s_.toNatClampNeg o ∧ gsi = upd gsi s_.toNatClampNeg n ∧ ∀ j : Nat, gce j = (if 160 * s_.toNatClampNeg ≤ j ∧ j < 160 * s_.toNatClampNeg + 160 then 0 else gce j)) from by (have k9 : ((-1) : Int32).toInt = -1 := (by decide); intro h; exfalso; omega)), (show (((-1) : Int32).toInt ≠ 1 → ghe = ghe ∧ gso = gso ∧ gsi = gsi ∧ gce = gce) from by (have k9 : ((-1) : Int32).toInt = -1 := (by decide); intro h; exact ⟨rfl, rfl, rfl, rfl⟩)), trivial⟩, zRet ht hP hD [5, 6, 0, 1, 2, 3, 4] (by decide) rfl⟩, hS.F ht⟩) hS.2.2 dX8_row_13
  · refine lv_if_ne (tgt := 14) hx hb dX8_row_5 (by decide) (fun c_15 => ?_) (fun c_15 => ?_)
    · refine lv_iload_n hx hb dX8_row_14 rfl (lv_at hl 3 rfl) ?_
      refine lv_if_ge (tgt := 25) hx hb dX8_row_15 (by decide) (fun c_16 => ?_) (fun c_16 => ?_)
      · have fc_16 : 0 ≤ n.toInt := zf_le c_16 (by decide) rfl
        refine lv_iload_n hx hb dX8_row_25 rfl (lv_at hl 2 rfl) ?_
        refine lv_if_lt (tgt := 34) hx hb dX8_row_26 (by decide) (fun c_17 => ?_) (fun c_17 => ?_)
        · have fc_17 : o.toInt < 0 := zf_lt c_17 rfl (by decide)
          refine lv_aload_n hx hb dX8_row_34 rfl (lv_at hl 0 rfl) ?_
          refine lv_bipush (v := (-6)) hx hb dX8_row_35 (by decide) ?_
          skip
          refine zw_V (As := [.int (-6)]) (rest := []) (wr := [(mhe, .inl (cI, 8, .inl ghe)), (mso, .inl (cI, 8, .inl gso)), (msi, .inl (cI, 8, .inl gsi)), (msh, .inl (cI, 8, .inl gsh)), (mce, .inl (cJ, 1280, .inr (.inl gce)))]) ⟨hx, hb, hml, hown, hts⟩ (c_M_no_6 l D cI cJ cZ cP cS po m0 mrf mki mpa mta mla msl mco mhe mso msi msh mce mca mwo mnu mte mwa mke mma mth mtr (npu) (nte) (nat_) (nde) (nto) (nse) (nhu) (nga) (nsd) (nfa) (nba) (npl) (nen) (nnu) (nwr) (nra) (nik) grf hy0 hy1 hy2 hy3 hy4 hy5 hy6 hy7 hy8 hy9 hy10 hy11 hy12 hy13 H.size) (cwV 1 hts gX8_row_X8_no rfl rfl rfl ⟨rfl, dh_X8_no⟩ ⟨Nat.le_of_ble_eq_true rfl, Nat.le_of_ble_eq_true rfl⟩) hK hN (hZ.kept hS) hP hD hS hA [0, 1] [2, 3, 4, 5, 6] rfl rfl (by decide) (by decide) (by decide) (va_recv (q := (RX8, TX8, 38)) hK hP (ci := 8) (q0 := 0) rfl rfl) rfl hl.1 rfl (Nat.le_of_ble_eq_true rfl) dX8_row_37 ⟨Nat.le_of_ble_eq_true rfl, Nat.le_of_ble_eq_true rfl⟩ (fun r_18 u_19 H locs hr_18 hP hD hS => ?_)
          obtain ⟨q_20, rfl⟩ : ∃ z, z = u_19 := ⟨_, rfl⟩
          have h9R := zRe (ws' := [(mhe, .inl (cI, 8, .inl ghe)), (mso, .inl (cI, 8, .inl gso)), (msi, .inl (cI, 8, .inl gsi)), (msh, .inl (cI, 8, .inl gsh)), (mce, .inl (cJ, 1280, .inr (.inl gce))), (zMO m0 npu nte nat_ nde nto nse nhu nga nsd nfa mrf mki mpa mta mla msl mco mhe mso msi msh mce mca mwo mnu mte nba npl nen nnu nwr mwa mke mma mth mtr nra nik), (mrf, .inl (cI, 8, .inl q_20))]) hP hD rfl
          clear hP hD
          obtain ⟨hP, hD⟩ := h9R
          obtain rfl := hr_18
          exact W.iret (v := (-6)) hx hb hr (fun t ht hW => ⟨⟨(-6), (q_20, ghe, gso, gsi, gce), rfl, ⟨hp_ghe, hp_gso, hp_gsi, (show ((-6) : Int32).toInt = zRow s_.toInt o.toInt n.toInt from by (have k9 : ((-6) : Int32).toInt = -6 := (by decide); unfold zRow; (repeat (first | rw [if_pos (by omega)] | rw [if_neg (by omega)])) <;> omega)), (show zHS ghe gsh from by exact hHS), (show (((-6) : Int32).toInt = 1 → ghe = upd ghe s_.toNatClampNeg 1 ∧ gso = upd gso s_.toNatClampNeg o ∧ gsi = upd gsi s_.toNatClampNeg n ∧ ∀ j : Nat, gce j = (if 160 * s_.toNatClampNeg ≤ j ∧ j < 160 * s_.toNatClampNeg + 160 then 0 else gce j)) from by (have k9 : ((-6) : Int32).toInt = -6 := (by decide); intro h; exfalso; omega)), (show (((-6) : Int32).toInt ≠ 1 → ghe = ghe ∧ gso = gso ∧ gsi = gsi ∧ gce = gce) from by (have k9 : ((-6) : Int32).toInt = -6 := (by decide); intro h; exact ⟨rfl, rfl, rfl, rfl⟩)), trivial⟩, zRet ht hP hD [5, 6, 0, 1, 2, 3, 4] (by decide) rfl⟩, hS.F ht⟩) hS.2.2 dX8_row_40
        · have fc_17 : 0 ≤ o.toInt := zf_nlt c_17 rfl (by decide)
          refine lv_iload_n hx hb dX8_row_29 rfl (lv_at hl 2 rfl) ?_
          refine lv_iconst (v := 3) hx hb dX8_row_30 (by decide) ?_
          refine lv_icmp_le (tgt := 41) hx hb dX8_row_31 (by decide) (fun c_21 => ?_) (fun c_21 => ?_)
          · have fc_21 : o.toInt ≤ 3 := zf_le c_21 rfl (by decide)
            refine lv_iload_n hx hb dX8_row_41 rfl (lv_at hl 3 rfl) ?_
            refine lv_sipush (v := 160) hx hb dX8_row_42 (by decide) ?_
            refine lv_icmp_le (tgt := 55) hx hb dX8_row_45 (by decide) (fun c_22 => ?_) (fun c_22 => ?_)
            · have fc_22 : n.toInt ≤ 160 := zf_le c_22 rfl (by decide)
              refine lv_aload_n hx hb dX8_row_55 rfl (lv_at hl 0 rfl) ?_
              refine va_get (D := D) (ci := 8) (v := .ref mhe) (C := RX8) (T := TX8) (N := 38) hx hb hts hi_X8_row_8 hown hK hP 0 rfl rfl 17 (by decide) (hts (.fieldLink RX8 47 "TheLiningsInItModel" "held" "[I") (List.mem_of_getElem? (i := 1) rfl)) (fun _ h9 => h9) rfl dX8_row_56 ?_
              refine lv_iload_n hx hb dX8_row_59 rfl (lv_at hl 1 rfl) ?_
              refine lv_iconst (v := 1) hx hb dX8_row_60 (by decide) ?_
              refine va_iast hx hb hK hP hD hS 2 0 rfl rfl (zf_in (by omega) (by omega)) dX8_row_61 (fun H locs hP hD hS => ?_)
              have hpg_23 : zRg (upd ghe s_.toNatClampNeg 1) (0) 2 := zRg_upd hp_ghe (by decide) (by decide)
              obtain ⟨g_23, hg_23⟩ : ∃ g : Nat → Int32, g = upd ghe s_.toNatClampNeg 1 := ⟨_, rfl⟩
              rw [← hg_23] at hP hD hpg_23
              have h9R := zRe (ws' := [(zMO m0 npu nte nat_ nde nto nse nhu nga nsd nfa mrf mki mpa mta mla msl mco mhe mso msi msh mce mca mwo mnu mte nba npl nen nnu nwr mwa mke mma mth mtr nra nik), (mrf, .inl (cI, 8, .inl grf)), (mhe, .inl (cI, 8, .inl g_23)), (mso, .inl (cI, 8, .inl gso)), (msi, .inl (cI, 8, .inl gsi)), (msh, .inl (cI, 8, .inl gsh)), (mce, .inl (cJ, 1280, .inr (.inl gce)))]) hP hD rfl
              clear hP hD
              obtain ⟨hP, hD⟩ := h9R
              refine lv_aload_n hx hb dX8_row_62 rfl (lv_at hl 0 rfl) ?_
              refine va_get (D := D) (ci := 8) (v := .ref mso) (C := RX8) (T := TX8) (N := 38) hx hb hts hi_X8_row_8 hown hK hP 0 rfl rfl 18 (by decide) (hts (.fieldLink RX8 50 "TheLiningsInItModel" "sort" "[I") (List.mem_of_getElem? (i := 2) rfl)) (fun _ h9 => h9) rfl dX8_row_63 ?_
              refine lv_iload_n hx hb dX8_row_66 rfl (lv_at hl 1 rfl) ?_
              refine lv_iload_n hx hb dX8_row_67 rfl (lv_at hl 2 rfl) ?_
              refine va_iast hx hb hK hP hD hS 3 0 rfl rfl (zf_in (by omega) (by omega)) dX8_row_68 (fun H locs hP hD hS => ?_)
              have hpg_24 : zRg (upd gso s_.toNatClampNeg o) (0) 3 := zRg_upd hp_gso (by omega) (by omega)
              obtain ⟨g_24, hg_24⟩ : ∃ g : Nat → Int32, g = upd gso s_.toNatClampNeg o := ⟨_, rfl⟩
              rw [← hg_24] at hP hD hpg_24
              have h9R := zRe (ws' := [(zMO m0 npu nte nat_ nde nto nse nhu nga nsd nfa mrf mki mpa mta mla msl mco mhe mso msi msh mce mca mwo mnu mte nba npl nen nnu nwr mwa mke mma mth mtr nra nik), (mrf, .inl (cI, 8, .inl grf)), (mhe, .inl (cI, 8, .inl g_23)), (mso, .inl (cI, 8, .inl g_24)), (msi, .inl (cI, 8, .inl gsi)), (msh, .inl (cI, 8, .inl gsh)), (mce, .inl (cJ, 1280, .inr (.inl gce)))]) hP hD rfl
              clear hP hD
              obtain ⟨hP, hD⟩ := h9R
              refine lv_aload_n hx hb dX8_row_69 rfl (lv_at hl 0 rfl) ?_
              refine va_get (D := D) (ci := 8) (v := .ref msi) (C := RX8) (T := TX8) (N := 38) hx hb hts hi_X8_row_8 hown hK hP 0 rfl rfl 19 (by decide) (hts (.fieldLink RX8 53 "TheLiningsInItModel" "size" "[I") (List.mem_of_getElem? (i := 3) rfl)) (fun _ h9 => h9) rfl dX8_row_70 ?_
              refine lv_iload_n hx hb dX8_row_73 rfl (lv_at hl 1 rfl) ?_
              refine lv_iload_n hx hb dX8_row_74 rfl (lv_at hl 3 rfl) ?_
              refine va_iast hx hb hK hP hD hS 4 0 rfl rfl (zf_in (by omega) (by omega)) dX8_row_75 (fun H locs hP hD hS => ?_)
              have hpg_25 : zRg (upd gsi s_.toNatClampNeg n) (0) 160 := zRg_upd hp_gsi (by omega) (by omega)
              obtain ⟨g_25, hg_25⟩ : ∃ g : Nat → Int32, g = upd gsi s_.toNatClampNeg n := ⟨_, rfl⟩
              rw [← hg_25] at hP hD hpg_25
              have h9R := zRe (ws' := [(zMO m0 npu nte nat_ nde nto nse nhu nga nsd nfa mrf mki mpa mta mla msl mco mhe mso msi msh mce mca mwo mnu mte nba npl nen nnu nwr mwa mke mma mth mtr nra nik), (mrf, .inl (cI, 8, .inl grf)), (mhe, .inl (cI, 8, .inl g_23)), (mso, .inl (cI, 8, .inl g_24)), (msi, .inl (cI, 8, .inl g_25)), (msh, .inl (cI, 8, .inl gsh)), (mce, .inl (cJ, 1280, .inr (.inl gce)))]) hP hD rfl
              clear hP hD
              obtain ⟨hP, hD⟩ := h9R
              have hHS1 : zHS g_23 gsh := by
                intro j hj
                rw [hg_23] at hj
                simp only [upd] at hj
                by_cases e9 : j = s_.toNatClampNeg
                · rw [if_pos e9] at hj
                  first | exact absurd hj (by decide) | exact ⟨by omega, by omega⟩
                · rw [if_neg e9] at hj
                  exact hHS j hj
              refine lv_iconst (v := 0) hx hb dX8_row_76 (by decide) ?_
              refine lv_istore (lv' := [(4, .int 0), (0, .ref m0), (1, .int s_), (2, .int o), (3, .int n)]) hx hb dX8_row_77 hl (by decide) rfl (fun ls hl => ?_)
              obtain ⟨i_79, hi_79⟩ : ∃ i : Int32, i = 0 := ⟨_, rfl⟩
              replace hl : lv_has ls 5 [(4, .int i_79), (0, .ref m0), (1, .int s_), (2, .int o), (3, .int n)] := by rw [hi_79]; exact lv_sub hl [0, 1, 2, 3, 4] rfl
              have h1i_79 : i_79.toInt = 0 := by rw [hi_79]; decide
              obtain ⟨nfu, hni_79⟩ : ∃ nq9 : Nat, 160 ≤ i_79.toInt + (nq9 : Int) := ⟨((160 : Int) - 0).toNat, by omega⟩
              have hloi_79 : 0 ≤ i_79.toInt := by omega
              obtain ⟨g_26, hg_26⟩ : ∃ g : Nat → Int64, g = gce := ⟨_, rfl⟩
              replace hP : va_P D vwCl [(zMO m0 npu nte nat_ nde nto nse nhu nga nsd nfa mrf mki mpa mta mla msl mco mhe mso msi msh mce mca mwo mnu mte nba npl nen nnu nwr mwa mke mma mth mtr nra nik), (mrf, .inl (cI, 8, .inl grf)), (mhe, .inl (cI, 8, .inl g_23)), (mso, .inl (cI, 8, .inl g_24)), (msi, .inl (cI, 8, .inl g_25)), (msh, .inl (cI, 8, .inl gsh)), (mce, .inl (cJ, 1280, .inr (.inl g_26)))] H := by rw [hg_26]; exact hP
              replace hD : va_D (va_A [(zMO m0 npu nte nat_ nde nto nse nhu nga nsd nfa mrf mki mpa mta mla msl mco mhe mso msi msh mce mca mwo mnu mte nba npl nen nnu nwr mwa mke mma mth mtr nra nik), (mrf, .inl (cI, 8, .inl grf)), (mhe, .inl (cI, 8, .inl ghe)), (mso, .inl (cI, 8, .inl gso)), (msi, .inl (cI, 8, .inl gsi)), (msh, .inl (cI, 8, .inl gsh)), (mce, .inl (cJ, 1280, .inr (.inl gce)))] s.heap.size) [(zMO m0 npu nte nat_ nde nto nse nhu nga nsd nfa mrf mki mpa mta mla msl mco mhe mso msi msh mce mca mwo mnu mte nba npl nen nnu nwr mwa mke mma mth mtr nra nik), (mrf, .inl (cI, 8, .inl grf)), (mhe, .inl (cI, 8, .inl g_23)), (mso, .inl (cI, 8, .inl g_24)), (msi, .inl (cI, 8, .inl g_25)), (msh, .inl (cI, 8, .inl gsh)), (mce, .inl (cJ, 1280, .inr (.inl g_26)))] := by rw [hg_26]; exact hD
              have hvi_79_0 : (∀ j : Nat, g_26 j = (if 160 * s_.toNatClampNeg ≤ j ∧ j < 160 * s_.toNatClampNeg + i_79.toInt.toNat then 0 else gce j)) := by
                (try rw [hi_79]); (try rw [hg_26]); (intro j; rw [if_neg (by have h8 : ((0 : Int32).toInt.toNat = 0) := (by decide); omega)])
              have hvi_79_1 : i_79.toInt ≤ 160 := by
                (try rw [hi_79]); (try rw [hg_26]); first | omega | decide
              clear h1i_79 hi_79 hg_26
              skip
              revert hni_79
              revert hloi_79
              revert hvi_79_1
              revert hvi_79_0
              revert hl
              revert hS
              revert hD
              revert hP
              revert ls
              revert locs
              revert H
              revert g_26
              revert i_79
              induction nfu with
              | zero =>
                intro i_79 g_26 H locs ls hP hD hS hl hvi_79_0 hvi_79_1 hloi_79 hni_79
                have hzi_79 : 160 ≤ i_79.toInt := by omega
                refine lv_iload hx hb dX8_row_79 (lv_at hl 0 rfl) ?_
                refine lv_sipush (v := 160) hx hb dX8_row_81 (by decide) ?_
                refine lv_icmp_ge (tgt := 107) hx hb dX8_row_84 (by decide) (fun c_27 => ?_) (fun c_27 => ?_)
                · have fc_27 : 160 ≤ i_79.toInt := zf_le c_27 (by decide) rfl
                  refine lv_iconst (v := 1) hx hb dX8_row_107 (by decide) ?_
                  exact W.iret (v := 1) hx hb hr (fun t ht hW => ⟨⟨1, (grf, g_23, g_24, g_25, g_26), rfl, ⟨hpg_23, hpg_24, hpg_25, (show (1 : Int32).toInt = zRow s_.toInt o.toInt n.toInt from by (have k9 : (1 : Int32).toInt = 1 := (by decide); unfold zRow; (repeat (first | rw [if_pos (by omega)] | rw [if_neg (by omega)])) <;> omega)), (show zHS g_23 gsh from by exact hHS1), (show ((1 : Int32).toInt = 1 → g_23 = upd ghe s_.toNatClampNeg 1 ∧ g_24 = upd gso s_.toNatClampNeg o ∧ g_25 = upd gsi s_.toNatClampNeg n ∧ ∀ j : Nat, g_26 j = (if 160 * s_.toNatClampNeg ≤ j ∧ j < 160 * s_.toNatClampNeg + 160 then 0 else gce j)) from by (have k9 : (1 : Int32).toInt = 1 := (by decide); intro h; exact ⟨hg_23, hg_24, hg_25, fun j => by (have h9 : i_79.toInt.toNat = 160 := (by omega); have z := hvi_79_0 j; rw [h9] at z; exact z)⟩)), (show ((1 : Int32).toInt ≠ 1 → g_23 = ghe ∧ g_24 = gso ∧ g_25 = gsi ∧ g_26 = gce) from by (have k9 : (1 : Int32).toInt = 1 := (by decide); intro h; exfalso; omega)), trivial⟩, zRet ht hP hD [0, 1, 2, 3, 4, 5, 6] (by decide) rfl⟩, hS.F ht⟩) hS.2.2 dX8_row_108
                · exfalso; have fc_27 : i_79.toInt < 160 := zf_nle c_27 (by decide) rfl; omega
              | succ nfu ih =>
                intro i_79 g_26 H locs ls hP hD hS hl hvi_79_0 hvi_79_1 hloi_79 hni_79
                refine lv_iload hx hb dX8_row_79 (lv_at hl 0 rfl) ?_
                refine lv_sipush (v := 160) hx hb dX8_row_81 (by decide) ?_
                refine lv_icmp_ge (tgt := 107) hx hb dX8_row_84 (by decide) (fun c_28 => ?_) (fun c_28 => ?_)
                · have fc_28 : 160 ≤ i_79.toInt := zf_le c_28 (by decide) rfl
                  refine lv_iconst (v := 1) hx hb dX8_row_107 (by decide) ?_
                  exact W.iret (v := 1) hx hb hr (fun t ht hW => ⟨⟨1, (grf, g_23, g_24, g_25, g_26), rfl, ⟨hpg_23, hpg_24, hpg_25, (show (1 : Int32).toInt = zRow s_.toInt o.toInt n.toInt from by (have k9 : (1 : Int32).toInt = 1 := (by decide); unfold zRow; (repeat (first | rw [if_pos (by omega)] | rw [if_neg (by omega)])) <;> omega)), (show zHS g_23 gsh from by exact hHS1), (show ((1 : Int32).toInt = 1 → g_23 = upd ghe s_.toNatClampNeg 1 ∧ g_24 = upd gso s_.toNatClampNeg o ∧ g_25 = upd gsi s_.toNatClampNeg n ∧ ∀ j : Nat, g_26 j = (if 160 * s_.toNatClampNeg ≤ j ∧ j < 160 * s_.toNatClampNeg + 160 then 0 else gce j)) from by (have k9 : (1 : Int32).toInt = 1 := (by decide); intro h; exact ⟨hg_23, hg_24, hg_25, fun j => by (have h9 : i_79.toInt.toNat = 160 := (by omega); have z := hvi_79_0 j; rw [h9] at z; exact z)⟩)), (show ((1 : Int32).toInt ≠ 1 → g_23 = ghe ∧ g_24 = gso ∧ g_25 = gsi ∧ g_26 = gce) from by (have k9 : (1 : Int32).toInt = 1 := (by decide); intro h; exfalso; omega)), trivial⟩, zRet ht hP hD [0, 1, 2, 3, 4, 5, 6] (by decide) rfl⟩, hS.F ht⟩) hS.2.2 dX8_row_108
                · have fc_28 : i_79.toInt < 160 := zf_nle c_28 (by decide) rfl
                  refine lv_aload_n hx hb dX8_row_87 rfl (lv_at hl 1 rfl) ?_
                  refine va_get (D := D) (ci := 8) (v := .ref mce) (C := RX8) (T := TX8) (N := 38) hx hb hts hi_X8_row_8 hown hK hP 0 rfl rfl 21 (by decide) (hts (.fieldLink RX8 59 "TheLiningsInItModel" "cells" "[J") (List.mem_of_getElem? (i := 4) rfl)) (fun _ h9 => h9) rfl dX8_row_88 ?_
                  refine lv_sipush (v := 160) hx hb dX8_row_91 (by decide) ?_
                  refine lv_iload_n hx hb dX8_row_94 rfl (lv_at hl 2 rfl) ?_
                  refine lv_imul hx hb dX8_row_95 ?_
                  refine lv_topi (fun x_29 ex_29 => ?_)
                  have qx_29 : x_29.toInt = 160 * s_.toInt := by rw [ex_29]; exact zf_mul (by decide) rfl (by omega) (by omega)
                  refine lv_iload hx hb dX8_row_96 (lv_at hl 0 rfl) ?_
                  refine lv_iadd hx hb dX8_row_98 ?_
                  refine lv_topi (fun x_30 ex_30 => ?_)
                  have qx_30 : x_30.toInt = x_29.toInt + i_79.toInt := by rw [ex_30]; exact zf_add rfl rfl (by omega) (by omega)
                  refine lv_lconst (v := 0) hx hb dX8_row_99 (by decide) ?_
                  refine va_last hx hb hK hP hD hS 6 1 rfl rfl (zf_in (by omega) (by omega)) dX8_row_100 (fun H locs hP hD hS => ?_)
                  obtain ⟨g_31, hg_31⟩ : ∃ g : Nat → Int64, g = vp_updL g_26 x_30.toNatClampNeg 0 := ⟨_, rfl⟩
                  rw [← hg_31] at hP hD
                  have h9R := zRe (ws' := [(zMO m0 npu nte nat_ nde nto nse nhu nga nsd nfa mrf mki mpa mta mla msl mco mhe mso msi msh mce mca mwo mnu mte nba npl nen nnu nwr mwa mke mma mth mtr nra nik), (mrf, .inl (cI, 8, .inl grf)), (mhe, .inl (cI, 8, .inl g_23)), (mso, .inl (cI, 8, .inl g_24)), (msi, .inl (cI, 8, .inl g_25)), (msh, .inl (cI, 8, .inl gsh)), (mce, .inl (cJ, 1280, .inr (.inl g_31)))]) hP hD rfl
                  clear hP hD
                  obtain ⟨hP, hD⟩ := h9R
                  obtain ⟨x_32, ex_32⟩ : ∃ y : Int32, y = i_79 + 1 := ⟨_, rfl⟩
                  have qx_32 : x_32.toInt = i_79.toInt + 1 := dw_incK ex_32 fc_28 (by decide)
                  refine lv_iinc (v := x_32) (lv' := [(4, .int x_32), (0, .ref m0), (1, .int s_), (2, .int o), (3, .int n)]) hx hb dX8_row_101 hl (k := 0) rfl ex_32.symm (by decide) rfl (fun ls hl => ?_)
                  refine lv_goto (tgt := 79) hx hb dX8_row_104 (by decide) ?_
                  exact ih x_32 (g_31) _ _ _ (hP.sub [0, 1, 2, 3, 4, 5, 6] rfl) (hD.sub [0, 1, 2, 3, 4, 5, 6] (by decide) rfl) hS (lv_sub hl [0, 1, 2, 3, 4] rfl) (show (∀ j : Nat, g_31 j = (if 160 * s_.toNatClampNeg ≤ j ∧ j < 160 * s_.toNatClampNeg + x_32.toInt.toNat then 0 else gce j)) from by (have hS9 : s_.toNatClampNeg = s_.toInt.toNat := rfl; intro j; rw [hg_31]; simp only [vp_updL]; have h7 : x_30.toNatClampNeg = x_30.toInt.toNat := rfl; by_cases e9 : j = x_30.toNatClampNeg; (rw [if_pos e9, if_pos (by omega)]); (rw [if_neg e9, hvi_79_0 j]; by_cases e8 : 160 * s_.toNatClampNeg ≤ j ∧ j < 160 * s_.toNatClampNeg + i_79.toInt.toNat; (rw [if_pos e8, if_pos (by omega)]); (rw [if_neg e8, if_neg (by omega)])))) (show x_32.toInt ≤ 160 from by omega) (dw_lo hloi_79 qx_32) (dw_hn hni_79 qx_32)
            · have fc_22 : 160 < n.toInt := zf_nle c_22 rfl (by decide)
              refine lv_aload_n hx hb dX8_row_48 rfl (lv_at hl 0 rfl) ?_
              refine lv_bipush (v := (-7)) hx hb dX8_row_49 (by decide) ?_
              skip
              refine zw_V (As := [.int (-7)]) (rest := []) (wr := [(mhe, .inl (cI, 8, .inl ghe)), (mso, .inl (cI, 8, .inl gso)), (msi, .inl (cI, 8, .inl gsi)), (msh, .inl (cI, 8, .inl gsh)), (mce, .inl (cJ, 1280, .inr (.inl gce)))]) ⟨hx, hb, hml, hown, hts⟩ (c_M_no_7 l D cI cJ cZ cP cS po m0 mrf mki mpa mta mla msl mco mhe mso msi msh mce mca mwo mnu mte mwa mke mma mth mtr (npu) (nte) (nat_) (nde) (nto) (nse) (nhu) (nga) (nsd) (nfa) (nba) (npl) (nen) (nnu) (nwr) (nra) (nik) grf hy0 hy1 hy2 hy3 hy4 hy5 hy6 hy7 hy8 hy9 hy10 hy11 hy12 hy13 H.size) (cwV 1 hts gX8_row_X8_no rfl rfl rfl ⟨rfl, dh_X8_no⟩ ⟨Nat.le_of_ble_eq_true rfl, Nat.le_of_ble_eq_true rfl⟩) hK hN (hZ.kept hS) hP hD hS hA [0, 1] [2, 3, 4, 5, 6] rfl rfl (by decide) (by decide) (by decide) (va_recv (q := (RX8, TX8, 38)) hK hP (ci := 8) (q0 := 0) rfl rfl) rfl hl.1 rfl (Nat.le_of_ble_eq_true rfl) dX8_row_51 ⟨Nat.le_of_ble_eq_true rfl, Nat.le_of_ble_eq_true rfl⟩ (fun r_33 u_34 H locs hr_33 hP hD hS => ?_)
              obtain ⟨q_35, rfl⟩ : ∃ z, z = u_34 := ⟨_, rfl⟩
              have h9R := zRe (ws' := [(mhe, .inl (cI, 8, .inl ghe)), (mso, .inl (cI, 8, .inl gso)), (msi, .inl (cI, 8, .inl gsi)), (msh, .inl (cI, 8, .inl gsh)), (mce, .inl (cJ, 1280, .inr (.inl gce))), (zMO m0 npu nte nat_ nde nto nse nhu nga nsd nfa mrf mki mpa mta mla msl mco mhe mso msi msh mce mca mwo mnu mte nba npl nen nnu nwr mwa mke mma mth mtr nra nik), (mrf, .inl (cI, 8, .inl q_35))]) hP hD rfl
              clear hP hD
              obtain ⟨hP, hD⟩ := h9R
              obtain rfl := hr_33
              exact W.iret (v := (-7)) hx hb hr (fun t ht hW => ⟨⟨(-7), (q_35, ghe, gso, gsi, gce), rfl, ⟨hp_ghe, hp_gso, hp_gsi, (show ((-7) : Int32).toInt = zRow s_.toInt o.toInt n.toInt from by (have k9 : ((-7) : Int32).toInt = -7 := (by decide); unfold zRow; (repeat (first | rw [if_pos (by omega)] | rw [if_neg (by omega)])) <;> omega)), (show zHS ghe gsh from by exact hHS), (show (((-7) : Int32).toInt = 1 → ghe = upd ghe s_.toNatClampNeg 1 ∧ gso = upd gso s_.toNatClampNeg o ∧ gsi = upd gsi s_.toNatClampNeg n ∧ ∀ j : Nat, gce j = (if 160 * s_.toNatClampNeg ≤ j ∧ j < 160 * s_.toNatClampNeg + 160 then 0 else gce j)) from by (have k9 : ((-7) : Int32).toInt = -7 := (by decide); intro h; exfalso; omega)), (show (((-7) : Int32).toInt ≠ 1 → ghe = ghe ∧ gso = gso ∧ gsi = gsi ∧ gce = gce) from by (have k9 : ((-7) : Int32).toInt = -7 := (by decide); intro h; exact ⟨rfl, rfl, rfl, rfl⟩)), trivial⟩, zRet ht hP hD [5, 6, 0, 1, 2, 3, 4] (by decide) rfl⟩, hS.F ht⟩) hS.2.2 dX8_row_54
          · have fc_21 : 3 < o.toInt := zf_nle c_21 rfl (by decide)
            refine lv_aload_n hx hb dX8_row_34 rfl (lv_at hl 0 rfl) ?_
            refine lv_bipush (v := (-6)) hx hb dX8_row_35 (by decide) ?_
            skip
            refine zw_V (As := [.int (-6)]) (rest := []) (wr := [(mhe, .inl (cI, 8, .inl ghe)), (mso, .inl (cI, 8, .inl gso)), (msi, .inl (cI, 8, .inl gsi)), (msh, .inl (cI, 8, .inl gsh)), (mce, .inl (cJ, 1280, .inr (.inl gce)))]) ⟨hx, hb, hml, hown, hts⟩ (c_M_no_6 l D cI cJ cZ cP cS po m0 mrf mki mpa mta mla msl mco mhe mso msi msh mce mca mwo mnu mte mwa mke mma mth mtr (npu) (nte) (nat_) (nde) (nto) (nse) (nhu) (nga) (nsd) (nfa) (nba) (npl) (nen) (nnu) (nwr) (nra) (nik) grf hy0 hy1 hy2 hy3 hy4 hy5 hy6 hy7 hy8 hy9 hy10 hy11 hy12 hy13 H.size) (cwV 1 hts gX8_row_X8_no rfl rfl rfl ⟨rfl, dh_X8_no⟩ ⟨Nat.le_of_ble_eq_true rfl, Nat.le_of_ble_eq_true rfl⟩) hK hN (hZ.kept hS) hP hD hS hA [0, 1] [2, 3, 4, 5, 6] rfl rfl (by decide) (by decide) (by decide) (va_recv (q := (RX8, TX8, 38)) hK hP (ci := 8) (q0 := 0) rfl rfl) rfl hl.1 rfl (Nat.le_of_ble_eq_true rfl) dX8_row_37 ⟨Nat.le_of_ble_eq_true rfl, Nat.le_of_ble_eq_true rfl⟩ (fun r_36 u_37 H locs hr_36 hP hD hS => ?_)
            obtain ⟨q_38, rfl⟩ : ∃ z, z = u_37 := ⟨_, rfl⟩
            have h9R := zRe (ws' := [(mhe, .inl (cI, 8, .inl ghe)), (mso, .inl (cI, 8, .inl gso)), (msi, .inl (cI, 8, .inl gsi)), (msh, .inl (cI, 8, .inl gsh)), (mce, .inl (cJ, 1280, .inr (.inl gce))), (zMO m0 npu nte nat_ nde nto nse nhu nga nsd nfa mrf mki mpa mta mla msl mco mhe mso msi msh mce mca mwo mnu mte nba npl nen nnu nwr mwa mke mma mth mtr nra nik), (mrf, .inl (cI, 8, .inl q_38))]) hP hD rfl
            clear hP hD
            obtain ⟨hP, hD⟩ := h9R
            obtain rfl := hr_36
            exact W.iret (v := (-6)) hx hb hr (fun t ht hW => ⟨⟨(-6), (q_38, ghe, gso, gsi, gce), rfl, ⟨hp_ghe, hp_gso, hp_gsi, (show ((-6) : Int32).toInt = zRow s_.toInt o.toInt n.toInt from by (have k9 : ((-6) : Int32).toInt = -6 := (by decide); unfold zRow; (repeat (first | rw [if_pos (by omega)] | rw [if_neg (by omega)])) <;> omega)), (show zHS ghe gsh from by exact hHS), (show (((-6) : Int32).toInt = 1 → ghe = upd ghe s_.toNatClampNeg 1 ∧ gso = upd gso s_.toNatClampNeg o ∧ gsi = upd gsi s_.toNatClampNeg n ∧ ∀ j : Nat, gce j = (if 160 * s_.toNatClampNeg ≤ j ∧ j < 160 * s_.toNatClampNeg + 160 then 0 else gce j)) from by (have k9 : ((-6) : Int32).toInt = -6 := (by decide); intro h; exfalso; omega)), (show (((-6) : Int32).toInt ≠ 1 → ghe = ghe ∧ gso = gso ∧ gsi = gsi ∧ gce = gce) from by (have k9 : ((-6) : Int32).toInt = -6 := (by decide); intro h; exact ⟨rfl, rfl, rfl, rfl⟩)), trivial⟩, zRet ht hP hD [5, 6, 0, 1, 2, 3, 4] (by decide) rfl⟩, hS.F ht⟩) hS.2.2 dX8_row_40
      · have fc_16 : n.toInt < 0 := zf_nle c_16 (by decide) rfl
        refine lv_aload_n hx hb dX8_row_18 rfl (lv_at hl 0 rfl) ?_
        refine lv_bipush (v := (-4)) hx hb dX8_row_19 (by decide) ?_
        skip
        refine zw_V (As := [.int (-4)]) (rest := []) (wr := [(mhe, .inl (cI, 8, .inl ghe)), (mso, .inl (cI, 8, .inl gso)), (msi, .inl (cI, 8, .inl gsi)), (msh, .inl (cI, 8, .inl gsh)), (mce, .inl (cJ, 1280, .inr (.inl gce)))]) ⟨hx, hb, hml, hown, hts⟩ (c_M_no_4 l D cI cJ cZ cP cS po m0 mrf mki mpa mta mla msl mco mhe mso msi msh mce mca mwo mnu mte mwa mke mma mth mtr (npu) (nte) (nat_) (nde) (nto) (nse) (nhu) (nga) (nsd) (nfa) (nba) (npl) (nen) (nnu) (nwr) (nra) (nik) grf hy0 hy1 hy2 hy3 hy4 hy5 hy6 hy7 hy8 hy9 hy10 hy11 hy12 hy13 H.size) (cwV 1 hts gX8_row_X8_no rfl rfl rfl ⟨rfl, dh_X8_no⟩ ⟨Nat.le_of_ble_eq_true rfl, Nat.le_of_ble_eq_true rfl⟩) hK hN (hZ.kept hS) hP hD hS hA [0, 1] [2, 3, 4, 5, 6] rfl rfl (by decide) (by decide) (by decide) (va_recv (q := (RX8, TX8, 38)) hK hP (ci := 8) (q0 := 0) rfl rfl) rfl hl.1 rfl (Nat.le_of_ble_eq_true rfl) dX8_row_21 ⟨Nat.le_of_ble_eq_true rfl, Nat.le_of_ble_eq_true rfl⟩ (fun r_39 u_40 H locs hr_39 hP hD hS => ?_)
        obtain ⟨q_41, rfl⟩ : ∃ z, z = u_40 := ⟨_, rfl⟩
        have h9R := zRe (ws' := [(mhe, .inl (cI, 8, .inl ghe)), (mso, .inl (cI, 8, .inl gso)), (msi, .inl (cI, 8, .inl gsi)), (msh, .inl (cI, 8, .inl gsh)), (mce, .inl (cJ, 1280, .inr (.inl gce))), (zMO m0 npu nte nat_ nde nto nse nhu nga nsd nfa mrf mki mpa mta mla msl mco mhe mso msi msh mce mca mwo mnu mte nba npl nen nnu nwr mwa mke mma mth mtr nra nik), (mrf, .inl (cI, 8, .inl q_41))]) hP hD rfl
        clear hP hD
        obtain ⟨hP, hD⟩ := h9R
        obtain rfl := hr_39
        exact W.iret (v := (-4)) hx hb hr (fun t ht hW => ⟨⟨(-4), (q_41, ghe, gso, gsi, gce), rfl, ⟨hp_ghe, hp_gso, hp_gsi, (show ((-4) : Int32).toInt = zRow s_.toInt o.toInt n.toInt from by (have k9 : ((-4) : Int32).toInt = -4 := (by decide); unfold zRow; (repeat (first | rw [if_pos (by omega)] | rw [if_neg (by omega)])) <;> omega)), (show zHS ghe gsh from by exact hHS), (show (((-4) : Int32).toInt = 1 → ghe = upd ghe s_.toNatClampNeg 1 ∧ gso = upd gso s_.toNatClampNeg o ∧ gsi = upd gsi s_.toNatClampNeg n ∧ ∀ j : Nat, gce j = (if 160 * s_.toNatClampNeg ≤ j ∧ j < 160 * s_.toNatClampNeg + 160 then 0 else gce j)) from by (have k9 : ((-4) : Int32).toInt = -4 := (by decide); intro h; exfalso; omega)), (show (((-4) : Int32).toInt ≠ 1 → ghe = ghe ∧ gso = gso ∧ gsi = gsi ∧ gce = gce) from by (have k9 : ((-4) : Int32).toInt = -4 := (by decide); intro h; exact ⟨rfl, rfl, rfl, rfl⟩)), trivial⟩, zRet ht hP hD [5, 6, 0, 1, 2, 3, 4] (by decide) rfl⟩, hS.F ht⟩) hS.2.2 dX8_row_24
    · exact absurd c_15 (by decide)
set_option maxHeartbeats 4000000 in
set_option maxRecDepth 100000 in
theorem c_F_M_set (l : Launch) (D : va_G) (cI cJ cZ cP cS : ClassId) (po : zPool) (m0 mrf mki mpa mta mla msl mco mhe mso msi msh mce mca mwo mnu mte mwa mke mma mth mtr : Nat) (npu nte nat_ nde nto nse nhu nga nsd nfa nba npl nen nnu nwr nra nik : Int32) (grf ghe gso gsi : Nat → Int32) (gce : Nat → Int64) (s_ i : Int32) (v : Int64) (hy0 : 0 ≤ npu.toInt) (hy1 : npu.toInt ≤ 8) (hy2 : 4 ≤ nte.toInt) (hy3 : nte.toInt ≤ 40) (hy4 : 0 ≤ nat_.toInt) (hy5 : nat_.toInt ≤ 40) (hy6 : 0 ≤ nde.toInt) (hy7 : nde.toInt ≤ 24) (hy8 : 0 ≤ nhu.toInt) (hy9 : nhu.toInt ≤ 9) (hy10 : 0 ≤ nra.toInt) (hy11 : nra.toInt ≤ 2000) (hy12 : 0 ≤ nik.toInt) (hy13 : nik.toInt ≤ 1) (hp_ghe : zRg ghe (0) 2) (hp_gso : zRg gso (0) 3) (hp_gsi : zRg gsi (0) 160) (hpz : Nat) : Met l yX8_set wsX8_set ({ frames := 1, cells := 0, slots := 0, locals := 21 }) (va_Pc [.ref m0, .int s_, .int i, .long v] (zW D (zKT cI cJ cZ cP cS) po [(zMO m0 npu nte nat_ nde nto nse nhu nga nsd nfa mrf mki mpa mta mla msl mco mhe mso msi msh mce mca mwo mnu mte nba npl nen nnu nwr mwa mke mma mth mtr nra nik), (mrf, .inl (cI, 8, .inl grf)), (mhe, .inl (cI, 8, .inl ghe)), (mso, .inl (cI, 8, .inl gso)), (msi, .inl (cI, 8, .inl gsi)), (mce, .inl (cJ, 1280, .inr (.inl gce)))] hpz)) (va_Qi (fun (r : Int32) (u : (Nat → Int32) × (Nat → Int64)) => (r.toInt = zSetR s_.toInt (zHc (ghe s_.toNatClampNeg).toInt) (gsi s_.toNatClampNeg).toInt i.toInt) ∧ ((r.toInt = 1 → u.2 = vp_updL gce (160 * s_.toInt + i.toInt).toNat (zNar (gso s_.toNatClampNeg).toInt v))) ∧ ((r.toInt ≠ 1 → u.2 = gce)) ∧ (True)) (zB D [(zMO m0 npu nte nat_ nde nto nse nhu nga nsd nfa mrf mki mpa mta mla msl mco mhe mso msi msh mce mca mwo mnu mte nba npl nen nnu nwr mwa mke mma mth mtr nra nik), (mrf, .inl (cI, 8, .inl grf)), (mhe, .inl (cI, 8, .inl ghe)), (mso, .inl (cI, 8, .inl gso)), (msi, .inl (cI, 8, .inl gsi)), (mce, .inl (cJ, 1280, .inr (.inl gce)))] hpz (fun (u : (Nat → Int32) × (Nat → Int64)) => [(zMO m0 npu nte nat_ nde nto nse nhu nga nsd nfa mrf mki mpa mta mla msl mco mhe mso msi msh mce mca mwo mnu mte nba npl nen nnu nwr mwa mke mma mth mtr nra nik), (mrf, .inl (cI, 8, .inl u.1)), (mhe, .inl (cI, 8, .inl ghe)), (mso, .inl (cI, 8, .inl gso)), (msi, .inl (cI, 8, .inl gsi)), (mce, .inl (cJ, 1280, .inr (.inl u.2)))])) (va_A [(zMO m0 npu nte nat_ nde nto nse nhu nga nsd nfa mrf mki mpa mta mla msl mco mhe mso msi msh mce mca mwo mnu mte nba npl nen nnu nwr mwa mke mma mth mtr nra nik), (mrf, .inl (cI, 8, .inl grf)), (mhe, .inl (cI, 8, .inl ghe)), (mso, .inl (cI, 8, .inl gso)), (msi, .inl (cI, 8, .inl gsi)), (mce, .inl (cJ, 1280, .inr (.inl gce)))] hpz)) 0 0 (va_A [(zMO m0 npu nte nat_ nde nto nse nhu nga nsd nfa mrf mki mpa mta mla msl mco mhe mso msi msh mce mca mwo mnu mte nba npl nen nnu nwr mwa mke mma mth mtr nra nik), (mrf, .inl (cI, 8, .inl grf)), (mhe, .inl (cI, 8, .inl ghe)), (mso, .inl (cI, 8, .inl gso)), (msi, .inl (cI, 8, .inl gsi)), (mce, .inl (cJ, 1280, .inr (.inl gce)))] hpz) := by
  refine Met.ofW (cc := cX8_set) (maxL := 5) (ret := (some .int)) (by decide) rfl ?_
  intro p e s m args below meth c s₁ B hml hv
  obtain ⟨rfl, hsz, hP, hK, hD0, hN, hZ⟩ := hv
  have hx := B.exec
  have hb := B.bytes
  have hr := B.returns
  have hts := atoms_spec (ws := wsX8_set) B.pre
  have hown : s.vm.findClass RX8 = some m.cls := findClass_of_methodNamed B.named
  have hlocks := B.notSynchronized
  subst hsz
  have hD := hD0.self (sz := s.heap.size)
  have hA := zA_of hD
  have hl := lv_entry ([.ref m0, .int s_, .int i, .long v]) (n := 5) (Nat.le_of_ble_eq_true rfl)
  rw [lg_entry_eq]
  generalize (lg_sl ([.ref m0, .int s_, .int i, .long v]) ++ List.replicate (5 - (lg_sl ([.ref m0, .int s_, .int i, .long v])).length) Slot.unset).toArray = ls at hl ⊢
  replace hl : lv_has ls 5 [(0, .ref m0), (1, .int s_), (2, .int i), (3, .long v)] := hl
  refine zw_begin hP hD (fun H locs hP1 hS => ?_)
  clear hP
  have hP := hP1
  clear hP1
  refine lv_aload_n hx hb dX8_set_0 rfl (lv_at hl 0 rfl) ?_
  refine lv_iload_n hx hb dX8_set_1 rfl (lv_at hl 1 rfl) ?_
  refine zc_V (As := [.int s_]) (rest := []) ⟨hx, hb, hml, hown, hts⟩ (c_M_isShelf l D cI cJ cZ cP cS po m0 mrf mki mpa mta mla msl mco mhe mso msi msh mce mca mwo mnu mte mwa mke mma mth mtr (npu) (nte) (nat_) (nde) (nto) (nse) (nhu) (nga) (nsd) (nfa) (nba) (npl) (nen) (nnu) (nwr) (nra) (nik) (s_) hy0 hy1 hy2 hy3 hy4 hy5 hy6 hy7 hy8 hy9 hy10 hy11 hy12 hy13) (cwV 1 hts gX8_set_X8_isShelf rfl rfl rfl ⟨rfl, dh_X8_isShelf⟩ ⟨Nat.le_of_ble_eq_true rfl, Nat.le_of_ble_eq_true rfl⟩) hK hN (hZ.kept hS) hP (hP.sub [0] rfl) (va_recv (q := (RX8, TX8, 38)) hK hP (ci := 8) (q0 := 0) rfl rfl) rfl hl.1 rfl (Nat.le_of_ble_eq_true rfl) dX8_set_2 ⟨Nat.le_of_ble_eq_true rfl, Nat.le_of_ble_eq_true rfl⟩ (fun r_1 hr_1 => ?_)
  rcases hr_1 with ⟨rfl, g_2⟩ | ⟨rfl, g_3, g_4⟩ | ⟨rfl, g_5, g_6⟩
  · refine lv_if_ne (tgt := 14) hx hb dX8_set_5 (by decide) (fun c_7 => ?_) (fun c_7 => ?_)
    · exact absurd c_7 (by decide)
    · refine lv_aload_n hx hb dX8_set_8 rfl (lv_at hl 0 rfl) ?_
      refine lv_iconst (v := (-1)) hx hb dX8_set_9 (by decide) ?_
      skip
      refine zw_V (As := [.int (-1)]) (rest := []) (wr := [(mhe, .inl (cI, 8, .inl ghe)), (mso, .inl (cI, 8, .inl gso)), (msi, .inl (cI, 8, .inl gsi)), (mce, .inl (cJ, 1280, .inr (.inl gce)))]) ⟨hx, hb, hml, hown, hts⟩ (c_M_no_1 l D cI cJ cZ cP cS po m0 mrf mki mpa mta mla msl mco mhe mso msi msh mce mca mwo mnu mte mwa mke mma mth mtr (npu) (nte) (nat_) (nde) (nto) (nse) (nhu) (nga) (nsd) (nfa) (nba) (npl) (nen) (nnu) (nwr) (nra) (nik) grf hy0 hy1 hy2 hy3 hy4 hy5 hy6 hy7 hy8 hy9 hy10 hy11 hy12 hy13 H.size) (cwV 1 hts gX8_set_X8_no rfl rfl rfl ⟨rfl, dh_X8_no⟩ ⟨Nat.le_of_ble_eq_true rfl, Nat.le_of_ble_eq_true rfl⟩) hK hN (hZ.kept hS) hP hD hS hA [0, 1] [2, 3, 4, 5] rfl rfl (by decide) (by decide) (by decide) (va_recv (q := (RX8, TX8, 38)) hK hP (ci := 8) (q0 := 0) rfl rfl) rfl hl.1 rfl (Nat.le_of_ble_eq_true rfl) dX8_set_10 ⟨Nat.le_of_ble_eq_true rfl, Nat.le_of_ble_eq_true rfl⟩ (fun r_8 u_9 H locs hr_8 hP hD hS => ?_)
      obtain ⟨q_10, rfl⟩ : ∃ z, z = u_9 := ⟨_, rfl⟩
      have h9R := zRe (ws' := [(mhe, .inl (cI, 8, .inl ghe)), (mso, .inl (cI, 8, .inl gso)), (msi, .inl (cI, 8, .inl gsi)), (mce, .inl (cJ, 1280, .inr (.inl gce))), (zMO m0 npu nte nat_ nde nto nse nhu nga nsd nfa mrf mki mpa mta mla msl mco mhe mso msi msh mce mca mwo mnu mte nba npl nen nnu nwr mwa mke mma mth mtr nra nik), (mrf, .inl (cI, 8, .inl q_10))]) hP hD rfl
      clear hP hD
      obtain ⟨hP, hD⟩ := h9R
      obtain rfl := hr_8
      exact W.iret (v := (-1)) hx hb hr (fun t ht hW => ⟨⟨(-1), (q_10, gce), rfl, ⟨(show ((-1) : Int32).toInt = zSetR s_.toInt (zHc (ghe s_.toNatClampNeg).toInt) (gsi s_.toNatClampNeg).toInt i.toInt from by (have k9 : ((-1) : Int32).toInt = -1 := (by decide); unfold zSetR zHc; (repeat (first | rw [if_pos (by omega)] | rw [if_neg (by omega)])) <;> omega)), (show (((-1) : Int32).toInt = 1 → gce = vp_updL gce (160 * s_.toInt + i.toInt).toNat (zNar (gso s_.toNatClampNeg).toInt v)) from by (have k9 : ((-1) : Int32).toInt = -1 := (by decide); intro h; exfalso; omega)), (show (((-1) : Int32).toInt ≠ 1 → gce = gce) from by (have k9 : ((-1) : Int32).toInt = -1 := (by decide); intro h; exact rfl)), trivial⟩, zRet ht hP hD [4, 5, 0, 1, 2, 3] (by decide) rfl⟩, hS.F ht⟩) hS.2.2 dX8_set_13
  · refine lv_if_ne (tgt := 14) hx hb dX8_set_5 (by decide) (fun c_11 => ?_) (fun c_11 => ?_)
    · exact absurd c_11 (by decide)
    · refine lv_aload_n hx hb dX8_set_8 rfl (lv_at hl 0 rfl) ?_
      refine lv_iconst (v := (-1)) hx hb dX8_set_9 (by decide) ?_
      skip
      refine zw_V (As := [.int (-1)]) (rest := []) (wr := [(mhe, .inl (cI, 8, .inl ghe)), (mso, .inl (cI, 8, .inl gso)), (msi, .inl (cI, 8, .inl gsi)), (mce, .inl (cJ, 1280, .inr (.inl gce)))]) ⟨hx, hb, hml, hown, hts⟩ (c_M_no_1 l D cI cJ cZ cP cS po m0 mrf mki mpa mta mla msl mco mhe mso msi msh mce mca mwo mnu mte mwa mke mma mth mtr (npu) (nte) (nat_) (nde) (nto) (nse) (nhu) (nga) (nsd) (nfa) (nba) (npl) (nen) (nnu) (nwr) (nra) (nik) grf hy0 hy1 hy2 hy3 hy4 hy5 hy6 hy7 hy8 hy9 hy10 hy11 hy12 hy13 H.size) (cwV 1 hts gX8_set_X8_no rfl rfl rfl ⟨rfl, dh_X8_no⟩ ⟨Nat.le_of_ble_eq_true rfl, Nat.le_of_ble_eq_true rfl⟩) hK hN (hZ.kept hS) hP hD hS hA [0, 1] [2, 3, 4, 5] rfl rfl (by decide) (by decide) (by decide) (va_recv (q := (RX8, TX8, 38)) hK hP (ci := 8) (q0 := 0) rfl rfl) rfl hl.1 rfl (Nat.le_of_ble_eq_true rfl) dX8_set_10 ⟨Nat.le_of_ble_eq_true rfl, Nat.le_of_ble_eq_true rfl⟩ (fun r_12 u_13 H locs hr_12 hP hD hS => ?_)
      obtain ⟨q_14, rfl⟩ : ∃ z, z = u_13 := ⟨_, rfl⟩
      have h9R := zRe (ws' := [(mhe, .inl (cI, 8, .inl ghe)), (mso, .inl (cI, 8, .inl gso)), (msi, .inl (cI, 8, .inl gsi)), (mce, .inl (cJ, 1280, .inr (.inl gce))), (zMO m0 npu nte nat_ nde nto nse nhu nga nsd nfa mrf mki mpa mta mla msl mco mhe mso msi msh mce mca mwo mnu mte nba npl nen nnu nwr mwa mke mma mth mtr nra nik), (mrf, .inl (cI, 8, .inl q_14))]) hP hD rfl
      clear hP hD
      obtain ⟨hP, hD⟩ := h9R
      obtain rfl := hr_12
      exact W.iret (v := (-1)) hx hb hr (fun t ht hW => ⟨⟨(-1), (q_14, gce), rfl, ⟨(show ((-1) : Int32).toInt = zSetR s_.toInt (zHc (ghe s_.toNatClampNeg).toInt) (gsi s_.toNatClampNeg).toInt i.toInt from by (have k9 : ((-1) : Int32).toInt = -1 := (by decide); unfold zSetR zHc; (repeat (first | rw [if_pos (by omega)] | rw [if_neg (by omega)])) <;> omega)), (show (((-1) : Int32).toInt = 1 → gce = vp_updL gce (160 * s_.toInt + i.toInt).toNat (zNar (gso s_.toNatClampNeg).toInt v)) from by (have k9 : ((-1) : Int32).toInt = -1 := (by decide); intro h; exfalso; omega)), (show (((-1) : Int32).toInt ≠ 1 → gce = gce) from by (have k9 : ((-1) : Int32).toInt = -1 := (by decide); intro h; exact rfl)), trivial⟩, zRet ht hP hD [4, 5, 0, 1, 2, 3] (by decide) rfl⟩, hS.F ht⟩) hS.2.2 dX8_set_13
  · refine lv_if_ne (tgt := 14) hx hb dX8_set_5 (by decide) (fun c_15 => ?_) (fun c_15 => ?_)
    · refine lv_aload_n hx hb dX8_set_14 rfl (lv_at hl 0 rfl) ?_
      refine va_get (D := D) (ci := 8) (v := .ref mhe) (C := RX8) (T := TX8) (N := 38) hx hb hts hi_X8_set_8 hown hK hP 0 rfl rfl 17 (by decide) (hts (.fieldLink RX8 47 "TheLiningsInItModel" "held" "[I") (List.mem_of_getElem? (i := 1) rfl)) (fun _ h9 => h9) rfl dX8_set_15 ?_
      refine lv_iload_n hx hb dX8_set_18 rfl (lv_at hl 1 rfl) ?_
      refine va_iald hx hb hK hP 2 0 rfl rfl (zf_in (by omega) (by omega)) dX8_set_19 ?_
      refine lv_topi (fun x_16 ex_16 => ?_)
      have bx_16 : 0 ≤ x_16.toInt ∧ x_16.toInt ≤ 2 := by rw [ex_16]; exact hp_ghe _
      refine lv_iconst (v := 2) hx hb dX8_set_20 (by decide) ?_
      refine lv_icmp_ne (tgt := 31) hx hb dX8_set_21 (by decide) (fun c_17 => ?_) (fun c_17 => ?_)
      · have fc_17 : x_16.toInt ≠ 2 := zf_ne c_17 rfl (by decide)
        refine lv_aload_n hx hb dX8_set_31 rfl (lv_at hl 0 rfl) ?_
        refine va_get (D := D) (ci := 8) (v := .ref mhe) (C := RX8) (T := TX8) (N := 38) hx hb hts hi_X8_set_8 hown hK hP 0 rfl rfl 17 (by decide) (hts (.fieldLink RX8 47 "TheLiningsInItModel" "held" "[I") (List.mem_of_getElem? (i := 1) rfl)) (fun _ h9 => h9) rfl dX8_set_32 ?_
        refine lv_iload_n hx hb dX8_set_35 rfl (lv_at hl 1 rfl) ?_
        refine va_iald hx hb hK hP 2 0 rfl rfl (zf_in (by omega) (by omega)) dX8_set_36 ?_
        refine lv_topi (fun y_18 ey_18 => ?_)
        obtain rfl : x_16 = y_18 := ex_16.trans ey_18.symm
        refine lv_if_ne (tgt := 47) hx hb dX8_set_37 (by decide) (fun c_19 => ?_) (fun c_19 => ?_)
        · have fc_19 : x_16.toInt ≠ 0 := zf_ne c_19 rfl (by decide)
          refine lv_iload_n hx hb dX8_set_47 rfl (lv_at hl 2 rfl) ?_
          refine lv_if_lt (tgt := 61) hx hb dX8_set_48 (by decide) (fun c_20 => ?_) (fun c_20 => ?_)
          · have fc_20 : i.toInt < 0 := zf_lt c_20 rfl (by decide)
            refine lv_aload_n hx hb dX8_set_61 rfl (lv_at hl 0 rfl) ?_
            refine lv_bipush (v := (-5)) hx hb dX8_set_62 (by decide) ?_
            skip
            refine zw_V (As := [.int (-5)]) (rest := []) (wr := [(mhe, .inl (cI, 8, .inl ghe)), (mso, .inl (cI, 8, .inl gso)), (msi, .inl (cI, 8, .inl gsi)), (mce, .inl (cJ, 1280, .inr (.inl gce)))]) ⟨hx, hb, hml, hown, hts⟩ (c_M_no_5 l D cI cJ cZ cP cS po m0 mrf mki mpa mta mla msl mco mhe mso msi msh mce mca mwo mnu mte mwa mke mma mth mtr (npu) (nte) (nat_) (nde) (nto) (nse) (nhu) (nga) (nsd) (nfa) (nba) (npl) (nen) (nnu) (nwr) (nra) (nik) grf hy0 hy1 hy2 hy3 hy4 hy5 hy6 hy7 hy8 hy9 hy10 hy11 hy12 hy13 H.size) (cwV 1 hts gX8_set_X8_no rfl rfl rfl ⟨rfl, dh_X8_no⟩ ⟨Nat.le_of_ble_eq_true rfl, Nat.le_of_ble_eq_true rfl⟩) hK hN (hZ.kept hS) hP hD hS hA [0, 1] [2, 3, 4, 5] rfl rfl (by decide) (by decide) (by decide) (va_recv (q := (RX8, TX8, 38)) hK hP (ci := 8) (q0 := 0) rfl rfl) rfl hl.1 rfl (Nat.le_of_ble_eq_true rfl) dX8_set_64 ⟨Nat.le_of_ble_eq_true rfl, Nat.le_of_ble_eq_true rfl⟩ (fun r_21 u_22 H locs hr_21 hP hD hS => ?_)
            obtain ⟨q_23, rfl⟩ : ∃ z, z = u_22 := ⟨_, rfl⟩
            have h9R := zRe (ws' := [(mhe, .inl (cI, 8, .inl ghe)), (mso, .inl (cI, 8, .inl gso)), (msi, .inl (cI, 8, .inl gsi)), (mce, .inl (cJ, 1280, .inr (.inl gce))), (zMO m0 npu nte nat_ nde nto nse nhu nga nsd nfa mrf mki mpa mta mla msl mco mhe mso msi msh mce mca mwo mnu mte nba npl nen nnu nwr mwa mke mma mth mtr nra nik), (mrf, .inl (cI, 8, .inl q_23))]) hP hD rfl
            clear hP hD
            obtain ⟨hP, hD⟩ := h9R
            obtain rfl := hr_21
            exact W.iret (v := (-5)) hx hb hr (fun t ht hW => ⟨⟨(-5), (q_23, gce), rfl, ⟨(show ((-5) : Int32).toInt = zSetR s_.toInt (zHc (ghe s_.toNatClampNeg).toInt) (gsi s_.toNatClampNeg).toInt i.toInt from by (have k9 : ((-5) : Int32).toInt = -5 := (by decide); (try rw [← ex_16]); unfold zSetR zHc; (repeat (first | rw [if_pos (by omega)] | rw [if_neg (by omega)])) <;> omega)), (show (((-5) : Int32).toInt = 1 → gce = vp_updL gce (160 * s_.toInt + i.toInt).toNat (zNar (gso s_.toNatClampNeg).toInt v)) from by (have k9 : ((-5) : Int32).toInt = -5 := (by decide); intro h; exfalso; omega)), (show (((-5) : Int32).toInt ≠ 1 → gce = gce) from by (have k9 : ((-5) : Int32).toInt = -5 := (by decide); intro h; exact rfl)), trivial⟩, zRet ht hP hD [4, 5, 0, 1, 2, 3] (by decide) rfl⟩, hS.F ht⟩) hS.2.2 dX8_set_67
          · have fc_20 : 0 ≤ i.toInt := zf_nlt c_20 rfl (by decide)
            refine lv_iload_n hx hb dX8_set_51 rfl (lv_at hl 2 rfl) ?_
            refine lv_aload_n hx hb dX8_set_52 rfl (lv_at hl 0 rfl) ?_
            refine va_get (D := D) (ci := 8) (v := .ref msi) (C := RX8) (T := TX8) (N := 38) hx hb hts hi_X8_set_8 hown hK hP 0 rfl rfl 19 (by decide) (hts (.fieldLink RX8 53 "TheLiningsInItModel" "size" "[I") (List.mem_of_getElem? (i := 2) rfl)) (fun _ h9 => h9) rfl dX8_set_53 ?_
            refine lv_iload_n hx hb dX8_set_56 rfl (lv_at hl 1 rfl) ?_
            refine va_iald hx hb hK hP 4 0 rfl rfl (zf_in (by omega) (by omega)) dX8_set_57 ?_
            refine lv_topi (fun x_24 ex_24 => ?_)
            have bx_24 : 0 ≤ x_24.toInt ∧ x_24.toInt ≤ 160 := by rw [ex_24]; exact hp_gsi _
            refine lv_icmp_lt (tgt := 68) hx hb dX8_set_58 (by decide) (fun c_25 => ?_) (fun c_25 => ?_)
            · have fc_25 : i.toInt < x_24.toInt := zf_lt c_25 rfl rfl
              refine lv_aload_n hx hb dX8_set_68 rfl (lv_at hl 0 rfl) ?_
              refine va_get (D := D) (ci := 8) (v := .ref mce) (C := RX8) (T := TX8) (N := 38) hx hb hts hi_X8_set_8 hown hK hP 0 rfl rfl 21 (by decide) (hts (.fieldLink RX8 59 "TheLiningsInItModel" "cells" "[J") (List.mem_of_getElem? (i := 3) rfl)) (fun _ h9 => h9) rfl dX8_set_69 ?_
              refine lv_sipush (v := 160) hx hb dX8_set_72 (by decide) ?_
              refine lv_iload_n hx hb dX8_set_75 rfl (lv_at hl 1 rfl) ?_
              refine lv_imul hx hb dX8_set_76 ?_
              refine lv_topi (fun x_26 ex_26 => ?_)
              have qx_26 : x_26.toInt = 160 * s_.toInt := by rw [ex_26]; exact zf_mul (by decide) rfl (by omega) (by omega)
              refine lv_iload_n hx hb dX8_set_77 rfl (lv_at hl 2 rfl) ?_
              refine lv_iadd hx hb dX8_set_78 ?_
              refine lv_topi (fun x_27 ex_27 => ?_)
              have qx_27 : x_27.toInt = x_26.toInt + i.toInt := by rw [ex_27]; exact zf_add rfl rfl (by omega) (by omega)
              refine lv_aload_n hx hb dX8_set_79 rfl (lv_at hl 0 rfl) ?_
              refine va_get (D := D) (ci := 8) (v := .ref mso) (C := RX8) (T := TX8) (N := 38) hx hb hts hi_X8_set_8 hown hK hP 0 rfl rfl 18 (by decide) (hts (.fieldLink RX8 50 "TheLiningsInItModel" "sort" "[I") (List.mem_of_getElem? (i := 4) rfl)) (fun _ h9 => h9) rfl dX8_set_80 ?_
              refine lv_iload_n hx hb dX8_set_83 rfl (lv_at hl 1 rfl) ?_
              refine va_iald hx hb hK hP 3 0 rfl rfl (zf_in (by omega) (by omega)) dX8_set_84 ?_
              refine lv_topi (fun x_28 ex_28 => ?_)
              have bx_28 : 0 ≤ x_28.toInt ∧ x_28.toInt ≤ 3 := by rw [ex_28]; exact hp_gso _
              refine lv_if_ne (tgt := 95) hx hb dX8_set_85 (by decide) (fun c_29 => ?_) (fun c_29 => ?_)
              · have fc_29 : x_28.toInt ≠ 0 := zf_ne c_29 rfl (by decide)
                refine lv_aload_n hx hb dX8_set_95 rfl (lv_at hl 0 rfl) ?_
                refine va_get (D := D) (ci := 8) (v := .ref mso) (C := RX8) (T := TX8) (N := 38) hx hb hts hi_X8_set_8 hown hK hP 0 rfl rfl 18 (by decide) (hts (.fieldLink RX8 50 "TheLiningsInItModel" "sort" "[I") (List.mem_of_getElem? (i := 4) rfl)) (fun _ h9 => h9) rfl dX8_set_96 ?_
                refine lv_iload_n hx hb dX8_set_99 rfl (lv_at hl 1 rfl) ?_
                refine va_iald hx hb hK hP 3 0 rfl rfl (zf_in (by omega) (by omega)) dX8_set_100 ?_
                refine lv_topi (fun y_30 ey_30 => ?_)
                obtain rfl : x_28 = y_30 := ex_28.trans ey_30.symm
                refine lv_iconst (v := 1) hx hb dX8_set_101 (by decide) ?_
                refine lv_icmp_ne (tgt := 112) hx hb dX8_set_102 (by decide) (fun c_31 => ?_) (fun c_31 => ?_)
                · have fc_31 : x_28.toInt ≠ 1 := zf_ne c_31 rfl (by decide)
                  refine lv_aload_n hx hb dX8_set_112 rfl (lv_at hl 0 rfl) ?_
                  refine va_get (D := D) (ci := 8) (v := .ref mso) (C := RX8) (T := TX8) (N := 38) hx hb hts hi_X8_set_8 hown hK hP 0 rfl rfl 18 (by decide) (hts (.fieldLink RX8 50 "TheLiningsInItModel" "sort" "[I") (List.mem_of_getElem? (i := 4) rfl)) (fun _ h9 => h9) rfl dX8_set_113 ?_
                  refine lv_iload_n hx hb dX8_set_116 rfl (lv_at hl 1 rfl) ?_
                  refine va_iald hx hb hK hP 3 0 rfl rfl (zf_in (by omega) (by omega)) dX8_set_117 ?_
                  refine lv_topi (fun y_32 ey_32 => ?_)
                  obtain rfl : x_28 = y_32 := ex_28.trans ey_32.symm
                  refine lv_iconst (v := 2) hx hb dX8_set_118 (by decide) ?_
                  refine lv_icmp_ne (tgt := 128) hx hb dX8_set_119 (by decide) (fun c_33 => ?_) (fun c_33 => ?_)
                  · have fc_33 : x_28.toInt ≠ 2 := zf_ne c_33 rfl (by decide)
                    refine lv_lload_n hx hb dX8_set_128 rfl (lv_at hl 3 rfl) ?_
                    refine va_last hx hb hK hP hD hS 5 1 rfl rfl (zf_in (by omega) (by omega)) dX8_set_129 (fun H locs hP hD hS => ?_)
                    obtain ⟨g_34, hg_34⟩ : ∃ g : Nat → Int64, g = vp_updL gce x_27.toNatClampNeg v := ⟨_, rfl⟩
                    rw [← hg_34] at hP hD
                    have h9R := zRe (ws' := [(zMO m0 npu nte nat_ nde nto nse nhu nga nsd nfa mrf mki mpa mta mla msl mco mhe mso msi msh mce mca mwo mnu mte nba npl nen nnu nwr mwa mke mma mth mtr nra nik), (mrf, .inl (cI, 8, .inl grf)), (mhe, .inl (cI, 8, .inl ghe)), (mso, .inl (cI, 8, .inl gso)), (msi, .inl (cI, 8, .inl gsi)), (mce, .inl (cJ, 1280, .inr (.inl g_34)))]) hP hD rfl
                    clear hP hD
                    obtain ⟨hP, hD⟩ := h9R
                    refine lv_iconst (v := 1) hx hb dX8_set_130 (by decide) ?_
                    exact W.iret (v := 1) hx hb hr (fun t ht hW => ⟨⟨1, (grf, g_34), rfl, ⟨(show (1 : Int32).toInt = zSetR s_.toInt (zHc (ghe s_.toNatClampNeg).toInt) (gsi s_.toNatClampNeg).toInt i.toInt from by (have k9 : (1 : Int32).toInt = 1 := (by decide); (try rw [← ex_16]); (try rw [← ex_24]); (try rw [← ex_28]); unfold zSetR zHc; (repeat (first | rw [if_pos (by omega)] | rw [if_neg (by omega)])) <;> omega)), (show ((1 : Int32).toInt = 1 → g_34 = vp_updL gce (160 * s_.toInt + i.toInt).toNat (zNar (gso s_.toNatClampNeg).toInt v)) from by (have k9 : (1 : Int32).toInt = 1 := (by decide); intro h; exact (by have hS9 : s_.toNatClampNeg = s_.toInt.toNat := rfl; rw [hg_34]; have h7 : x_27.toNatClampNeg = (160 * s_.toInt + i.toInt).toNat := (by show x_27.toInt.toNat = _; congr 1; omega); rw [h7]; congr 1; rw [← ex_28]; unfold zNar; repeat (first | rw [if_pos (by omega)] | rw [if_neg (by omega)])))), (show ((1 : Int32).toInt ≠ 1 → g_34 = gce) from by (have k9 : (1 : Int32).toInt = 1 := (by decide); intro h; exfalso; omega)), trivial⟩, zRet ht hP hD [0, 1, 2, 3, 4, 5] (by decide) rfl⟩, hS.F ht⟩) hS.2.2 dX8_set_131
                  · have fc_33 : x_28.toInt = 2 := zf_eq c_33 rfl (by decide)
                    refine lv_lload_n hx hb dX8_set_122 rfl (lv_at hl 3 rfl) ?_
                    refine lv_l2i hx hb dX8_set_123 rfl ?_
                    refine lv_topi (fun x_35 ex_35 => ?_)
                    refine lv_i2l hx hb dX8_set_124 rfl ?_
                    refine lv_topl (fun y_36 ey_36 => ?_)
                    refine lv_goto (tgt := 129) hx hb dX8_set_125 (by decide) ?_
                    refine va_last hx hb hK hP hD hS 5 1 rfl rfl (zf_in (by omega) (by omega)) dX8_set_129 (fun H locs hP hD hS => ?_)
                    obtain ⟨g_37, hg_37⟩ : ∃ g : Nat → Int64, g = vp_updL gce x_27.toNatClampNeg y_36 := ⟨_, rfl⟩
                    rw [← hg_37] at hP hD
                    have h9R := zRe (ws' := [(zMO m0 npu nte nat_ nde nto nse nhu nga nsd nfa mrf mki mpa mta mla msl mco mhe mso msi msh mce mca mwo mnu mte nba npl nen nnu nwr mwa mke mma mth mtr nra nik), (mrf, .inl (cI, 8, .inl grf)), (mhe, .inl (cI, 8, .inl ghe)), (mso, .inl (cI, 8, .inl gso)), (msi, .inl (cI, 8, .inl gsi)), (mce, .inl (cJ, 1280, .inr (.inl g_37)))]) hP hD rfl
                    clear hP hD
                    obtain ⟨hP, hD⟩ := h9R
                    refine lv_iconst (v := 1) hx hb dX8_set_130 (by decide) ?_
                    exact W.iret (v := 1) hx hb hr (fun t ht hW => ⟨⟨1, (grf, g_37), rfl, ⟨(show (1 : Int32).toInt = zSetR s_.toInt (zHc (ghe s_.toNatClampNeg).toInt) (gsi s_.toNatClampNeg).toInt i.toInt from by (have k9 : (1 : Int32).toInt = 1 := (by decide); (try rw [← ex_16]); (try rw [← ex_24]); (try rw [← ex_28]); unfold zSetR zHc; (repeat (first | rw [if_pos (by omega)] | rw [if_neg (by omega)])) <;> omega)), (show ((1 : Int32).toInt = 1 → g_37 = vp_updL gce (160 * s_.toInt + i.toInt).toNat (zNar (gso s_.toNatClampNeg).toInt v)) from by (have k9 : (1 : Int32).toInt = 1 := (by decide); intro h; exact (by have hS9 : s_.toNatClampNeg = s_.toInt.toNat := rfl; rw [hg_37]; have h7 : x_27.toNatClampNeg = (160 * s_.toInt + i.toInt).toNat := (by show x_27.toInt.toNat = _; congr 1; omega); rw [h7]; congr 1; rw [ey_36, ex_35]; rw [← ex_28]; unfold zNar; repeat (first | rw [if_pos (by omega)] | rw [if_neg (by omega)])))), (show ((1 : Int32).toInt ≠ 1 → g_37 = gce) from by (have k9 : (1 : Int32).toInt = 1 := (by decide); intro h; exfalso; omega)), trivial⟩, zRet ht hP hD [0, 1, 2, 3, 4, 5] (by decide) rfl⟩, hS.F ht⟩) hS.2.2 dX8_set_131
                · have fc_31 : x_28.toInt = 1 := zf_eq c_31 rfl (by decide)
                  refine lv_lload_n hx hb dX8_set_105 rfl (lv_at hl 3 rfl) ?_
                  refine lv_l2i hx hb dX8_set_106 rfl ?_
                  refine lv_topi (fun x_38 ex_38 => ?_)
                  refine lv_i2s hx hb dX8_set_107 rfl ?_
                  refine lv_topi (fun x_39 ex_39 => ?_)
                  refine lv_i2l hx hb dX8_set_108 rfl ?_
                  refine lv_topl (fun y_40 ey_40 => ?_)
                  refine lv_goto (tgt := 129) hx hb dX8_set_109 (by decide) ?_
                  refine va_last hx hb hK hP hD hS 5 1 rfl rfl (zf_in (by omega) (by omega)) dX8_set_129 (fun H locs hP hD hS => ?_)
                  obtain ⟨g_41, hg_41⟩ : ∃ g : Nat → Int64, g = vp_updL gce x_27.toNatClampNeg y_40 := ⟨_, rfl⟩
                  rw [← hg_41] at hP hD
                  have h9R := zRe (ws' := [(zMO m0 npu nte nat_ nde nto nse nhu nga nsd nfa mrf mki mpa mta mla msl mco mhe mso msi msh mce mca mwo mnu mte nba npl nen nnu nwr mwa mke mma mth mtr nra nik), (mrf, .inl (cI, 8, .inl grf)), (mhe, .inl (cI, 8, .inl ghe)), (mso, .inl (cI, 8, .inl gso)), (msi, .inl (cI, 8, .inl gsi)), (mce, .inl (cJ, 1280, .inr (.inl g_41)))]) hP hD rfl
                  clear hP hD
                  obtain ⟨hP, hD⟩ := h9R
                  refine lv_iconst (v := 1) hx hb dX8_set_130 (by decide) ?_
                  exact W.iret (v := 1) hx hb hr (fun t ht hW => ⟨⟨1, (grf, g_41), rfl, ⟨(show (1 : Int32).toInt = zSetR s_.toInt (zHc (ghe s_.toNatClampNeg).toInt) (gsi s_.toNatClampNeg).toInt i.toInt from by (have k9 : (1 : Int32).toInt = 1 := (by decide); (try rw [← ex_16]); (try rw [← ex_24]); (try rw [← ex_28]); unfold zSetR zHc; (repeat (first | rw [if_pos (by omega)] | rw [if_neg (by omega)])) <;> omega)), (show ((1 : Int32).toInt = 1 → g_41 = vp_updL gce (160 * s_.toInt + i.toInt).toNat (zNar (gso s_.toNatClampNeg).toInt v)) from by (have k9 : (1 : Int32).toInt = 1 := (by decide); intro h; exact (by have hS9 : s_.toNatClampNeg = s_.toInt.toNat := rfl; rw [hg_41]; have h7 : x_27.toNatClampNeg = (160 * s_.toInt + i.toInt).toNat := (by show x_27.toInt.toNat = _; congr 1; omega); rw [h7]; congr 1; rw [ey_40, ex_39, ex_38]; rw [← ex_28]; unfold zNar; repeat (first | rw [if_pos (by omega)] | rw [if_neg (by omega)])))), (show ((1 : Int32).toInt ≠ 1 → g_41 = gce) from by (have k9 : (1 : Int32).toInt = 1 := (by decide); intro h; exfalso; omega)), trivial⟩, zRet ht hP hD [0, 1, 2, 3, 4, 5] (by decide) rfl⟩, hS.F ht⟩) hS.2.2 dX8_set_131
              · have fc_29 : x_28.toInt = 0 := zf_eq c_29 rfl (by decide)
                refine lv_lload_n hx hb dX8_set_88 rfl (lv_at hl 3 rfl) ?_
                refine lv_l2i hx hb dX8_set_89 rfl ?_
                refine lv_topi (fun x_42 ex_42 => ?_)
                refine lv_i2b hx hb dX8_set_90 rfl ?_
                refine lv_topi (fun x_43 ex_43 => ?_)
                refine lv_i2l hx hb dX8_set_91 rfl ?_
                refine lv_topl (fun y_44 ey_44 => ?_)
                refine lv_goto (tgt := 129) hx hb dX8_set_92 (by decide) ?_
                refine va_last hx hb hK hP hD hS 5 1 rfl rfl (zf_in (by omega) (by omega)) dX8_set_129 (fun H locs hP hD hS => ?_)
                obtain ⟨g_45, hg_45⟩ : ∃ g : Nat → Int64, g = vp_updL gce x_27.toNatClampNeg y_44 := ⟨_, rfl⟩
                rw [← hg_45] at hP hD
                have h9R := zRe (ws' := [(zMO m0 npu nte nat_ nde nto nse nhu nga nsd nfa mrf mki mpa mta mla msl mco mhe mso msi msh mce mca mwo mnu mte nba npl nen nnu nwr mwa mke mma mth mtr nra nik), (mrf, .inl (cI, 8, .inl grf)), (mhe, .inl (cI, 8, .inl ghe)), (mso, .inl (cI, 8, .inl gso)), (msi, .inl (cI, 8, .inl gsi)), (mce, .inl (cJ, 1280, .inr (.inl g_45)))]) hP hD rfl
                clear hP hD
                obtain ⟨hP, hD⟩ := h9R
                refine lv_iconst (v := 1) hx hb dX8_set_130 (by decide) ?_
                exact W.iret (v := 1) hx hb hr (fun t ht hW => ⟨⟨1, (grf, g_45), rfl, ⟨(show (1 : Int32).toInt = zSetR s_.toInt (zHc (ghe s_.toNatClampNeg).toInt) (gsi s_.toNatClampNeg).toInt i.toInt from by (have k9 : (1 : Int32).toInt = 1 := (by decide); (try rw [← ex_16]); (try rw [← ex_24]); (try rw [← ex_28]); unfold zSetR zHc; (repeat (first | rw [if_pos (by omega)] | rw [if_neg (by omega)])) <;> omega)), (show ((1 : Int32).toInt = 1 → g_45 = vp_updL gce (160 * s_.toInt + i.toInt).toNat (zNar (gso s_.toNatClampNeg).toInt v)) from by (have k9 : (1 : Int32).toInt = 1 := (by decide); intro h; exact (by have hS9 : s_.toNatClampNeg = s_.toInt.toNat := rfl; rw [hg_45]; have h7 : x_27.toNatClampNeg = (160 * s_.toInt + i.toInt).toNat := (by show x_27.toInt.toNat = _; congr 1; omega); rw [h7]; congr 1; rw [ey_44, ex_43, ex_42]; rw [← ex_28]; unfold zNar; repeat (first | rw [if_pos (by omega)] | rw [if_neg (by omega)])))), (show ((1 : Int32).toInt ≠ 1 → g_45 = gce) from by (have k9 : (1 : Int32).toInt = 1 := (by decide); intro h; exfalso; omega)), trivial⟩, zRet ht hP hD [0, 1, 2, 3, 4, 5] (by decide) rfl⟩, hS.F ht⟩) hS.2.2 dX8_set_131
            · have fc_25 : x_24.toInt ≤ i.toInt := zf_nlt c_25 rfl rfl
              refine lv_aload_n hx hb dX8_set_61 rfl (lv_at hl 0 rfl) ?_
              refine lv_bipush (v := (-5)) hx hb dX8_set_62 (by decide) ?_
              skip
              refine zw_V (As := [.int (-5)]) (rest := []) (wr := [(mhe, .inl (cI, 8, .inl ghe)), (mso, .inl (cI, 8, .inl gso)), (msi, .inl (cI, 8, .inl gsi)), (mce, .inl (cJ, 1280, .inr (.inl gce)))]) ⟨hx, hb, hml, hown, hts⟩ (c_M_no_5 l D cI cJ cZ cP cS po m0 mrf mki mpa mta mla msl mco mhe mso msi msh mce mca mwo mnu mte mwa mke mma mth mtr (npu) (nte) (nat_) (nde) (nto) (nse) (nhu) (nga) (nsd) (nfa) (nba) (npl) (nen) (nnu) (nwr) (nra) (nik) grf hy0 hy1 hy2 hy3 hy4 hy5 hy6 hy7 hy8 hy9 hy10 hy11 hy12 hy13 H.size) (cwV 1 hts gX8_set_X8_no rfl rfl rfl ⟨rfl, dh_X8_no⟩ ⟨Nat.le_of_ble_eq_true rfl, Nat.le_of_ble_eq_true rfl⟩) hK hN (hZ.kept hS) hP hD hS hA [0, 1] [2, 3, 4, 5] rfl rfl (by decide) (by decide) (by decide) (va_recv (q := (RX8, TX8, 38)) hK hP (ci := 8) (q0 := 0) rfl rfl) rfl hl.1 rfl (Nat.le_of_ble_eq_true rfl) dX8_set_64 ⟨Nat.le_of_ble_eq_true rfl, Nat.le_of_ble_eq_true rfl⟩ (fun r_46 u_47 H locs hr_46 hP hD hS => ?_)
              obtain ⟨q_48, rfl⟩ : ∃ z, z = u_47 := ⟨_, rfl⟩
              have h9R := zRe (ws' := [(mhe, .inl (cI, 8, .inl ghe)), (mso, .inl (cI, 8, .inl gso)), (msi, .inl (cI, 8, .inl gsi)), (mce, .inl (cJ, 1280, .inr (.inl gce))), (zMO m0 npu nte nat_ nde nto nse nhu nga nsd nfa mrf mki mpa mta mla msl mco mhe mso msi msh mce mca mwo mnu mte nba npl nen nnu nwr mwa mke mma mth mtr nra nik), (mrf, .inl (cI, 8, .inl q_48))]) hP hD rfl
              clear hP hD
              obtain ⟨hP, hD⟩ := h9R
              obtain rfl := hr_46
              exact W.iret (v := (-5)) hx hb hr (fun t ht hW => ⟨⟨(-5), (q_48, gce), rfl, ⟨(show ((-5) : Int32).toInt = zSetR s_.toInt (zHc (ghe s_.toNatClampNeg).toInt) (gsi s_.toNatClampNeg).toInt i.toInt from by (have k9 : ((-5) : Int32).toInt = -5 := (by decide); (try rw [← ex_16]); (try rw [← ex_24]); unfold zSetR zHc; (repeat (first | rw [if_pos (by omega)] | rw [if_neg (by omega)])) <;> omega)), (show (((-5) : Int32).toInt = 1 → gce = vp_updL gce (160 * s_.toInt + i.toInt).toNat (zNar (gso s_.toNatClampNeg).toInt v)) from by (have k9 : ((-5) : Int32).toInt = -5 := (by decide); intro h; exfalso; omega)), (show (((-5) : Int32).toInt ≠ 1 → gce = gce) from by (have k9 : ((-5) : Int32).toInt = -5 := (by decide); intro h; exact rfl)), trivial⟩, zRet ht hP hD [4, 5, 0, 1, 2, 3] (by decide) rfl⟩, hS.F ht⟩) hS.2.2 dX8_set_67
        · have fc_19 : x_16.toInt = 0 := zf_eq c_19 rfl (by decide)
          refine lv_aload_n hx hb dX8_set_40 rfl (lv_at hl 0 rfl) ?_
          refine lv_bipush (v := (-3)) hx hb dX8_set_41 (by decide) ?_
          skip
          refine zw_V (As := [.int (-3)]) (rest := []) (wr := [(mhe, .inl (cI, 8, .inl ghe)), (mso, .inl (cI, 8, .inl gso)), (msi, .inl (cI, 8, .inl gsi)), (mce, .inl (cJ, 1280, .inr (.inl gce)))]) ⟨hx, hb, hml, hown, hts⟩ (c_M_no_3 l D cI cJ cZ cP cS po m0 mrf mki mpa mta mla msl mco mhe mso msi msh mce mca mwo mnu mte mwa mke mma mth mtr (npu) (nte) (nat_) (nde) (nto) (nse) (nhu) (nga) (nsd) (nfa) (nba) (npl) (nen) (nnu) (nwr) (nra) (nik) grf hy0 hy1 hy2 hy3 hy4 hy5 hy6 hy7 hy8 hy9 hy10 hy11 hy12 hy13 H.size) (cwV 1 hts gX8_set_X8_no rfl rfl rfl ⟨rfl, dh_X8_no⟩ ⟨Nat.le_of_ble_eq_true rfl, Nat.le_of_ble_eq_true rfl⟩) hK hN (hZ.kept hS) hP hD hS hA [0, 1] [2, 3, 4, 5] rfl rfl (by decide) (by decide) (by decide) (va_recv (q := (RX8, TX8, 38)) hK hP (ci := 8) (q0 := 0) rfl rfl) rfl hl.1 rfl (Nat.le_of_ble_eq_true rfl) dX8_set_43 ⟨Nat.le_of_ble_eq_true rfl, Nat.le_of_ble_eq_true rfl⟩ (fun r_49 u_50 H locs hr_49 hP hD hS => ?_)
          obtain ⟨q_51, rfl⟩ : ∃ z, z = u_50 := ⟨_, rfl⟩
          have h9R := zRe (ws' := [(mhe, .inl (cI, 8, .inl ghe)), (mso, .inl (cI, 8, .inl gso)), (msi, .inl (cI, 8, .inl gsi)), (mce, .inl (cJ, 1280, .inr (.inl gce))), (zMO m0 npu nte nat_ nde nto nse nhu nga nsd nfa mrf mki mpa mta mla msl mco mhe mso msi msh mce mca mwo mnu mte nba npl nen nnu nwr mwa mke mma mth mtr nra nik), (mrf, .inl (cI, 8, .inl q_51))]) hP hD rfl
          clear hP hD
          obtain ⟨hP, hD⟩ := h9R
          obtain rfl := hr_49
          exact W.iret (v := (-3)) hx hb hr (fun t ht hW => ⟨⟨(-3), (q_51, gce), rfl, ⟨(show ((-3) : Int32).toInt = zSetR s_.toInt (zHc (ghe s_.toNatClampNeg).toInt) (gsi s_.toNatClampNeg).toInt i.toInt from by (have k9 : ((-3) : Int32).toInt = -3 := (by decide); (try rw [← ex_16]); unfold zSetR zHc; (repeat (first | rw [if_pos (by omega)] | rw [if_neg (by omega)])) <;> omega)), (show (((-3) : Int32).toInt = 1 → gce = vp_updL gce (160 * s_.toInt + i.toInt).toNat (zNar (gso s_.toNatClampNeg).toInt v)) from by (have k9 : ((-3) : Int32).toInt = -3 := (by decide); intro h; exfalso; omega)), (show (((-3) : Int32).toInt ≠ 1 → gce = gce) from by (have k9 : ((-3) : Int32).toInt = -3 := (by decide); intro h; exact rfl)), trivial⟩, zRet ht hP hD [4, 5, 0, 1, 2, 3] (by decide) rfl⟩, hS.F ht⟩) hS.2.2 dX8_set_46
      · have fc_17 : x_16.toInt = 2 := zf_eq c_17 rfl (by decide)
        refine lv_aload_n hx hb dX8_set_24 rfl (lv_at hl 0 rfl) ?_
        refine lv_bipush (v := (-2)) hx hb dX8_set_25 (by decide) ?_
        skip
        refine zw_V (As := [.int (-2)]) (rest := []) (wr := [(mhe, .inl (cI, 8, .inl ghe)), (mso, .inl (cI, 8, .inl gso)), (msi, .inl (cI, 8, .inl gsi)), (mce, .inl (cJ, 1280, .inr (.inl gce)))]) ⟨hx, hb, hml, hown, hts⟩ (c_M_no_2 l D cI cJ cZ cP cS po m0 mrf mki mpa mta mla msl mco mhe mso msi msh mce mca mwo mnu mte mwa mke mma mth mtr (npu) (nte) (nat_) (nde) (nto) (nse) (nhu) (nga) (nsd) (nfa) (nba) (npl) (nen) (nnu) (nwr) (nra) (nik) grf hy0 hy1 hy2 hy3 hy4 hy5 hy6 hy7 hy8 hy9 hy10 hy11 hy12 hy13 H.size) (cwV 1 hts gX8_set_X8_no rfl rfl rfl ⟨rfl, dh_X8_no⟩ ⟨Nat.le_of_ble_eq_true rfl, Nat.le_of_ble_eq_true rfl⟩) hK hN (hZ.kept hS) hP hD hS hA [0, 1] [2, 3, 4, 5] rfl rfl (by decide) (by decide) (by decide) (va_recv (q := (RX8, TX8, 38)) hK hP (ci := 8) (q0 := 0) rfl rfl) rfl hl.1 rfl (Nat.le_of_ble_eq_true rfl) dX8_set_27 ⟨Nat.le_of_ble_eq_true rfl, Nat.le_of_ble_eq_true rfl⟩ (fun r_52 u_53 H locs hr_52 hP hD hS => ?_)
        obtain ⟨q_54, rfl⟩ : ∃ z, z = u_53 := ⟨_, rfl⟩
        have h9R := zRe (ws' := [(mhe, .inl (cI, 8, .inl ghe)), (mso, .inl (cI, 8, .inl gso)), (msi, .inl (cI, 8, .inl gsi)), (mce, .inl (cJ, 1280, .inr (.inl gce))), (zMO m0 npu nte nat_ nde nto nse nhu nga nsd nfa mrf mki mpa mta mla msl mco mhe mso msi msh mce mca mwo mnu mte nba npl nen nnu nwr mwa mke mma mth mtr nra nik), (mrf, .inl (cI, 8, .inl q_54))]) hP hD rfl
        clear hP hD
        obtain ⟨hP, hD⟩ := h9R
        obtain rfl := hr_52
        exact W.iret (v := (-2)) hx hb hr (fun t ht hW => ⟨⟨(-2), (q_54, gce), rfl, ⟨(show ((-2) : Int32).toInt = zSetR s_.toInt (zHc (ghe s_.toNatClampNeg).toInt) (gsi s_.toNatClampNeg).toInt i.toInt from by (have k9 : ((-2) : Int32).toInt = -2 := (by decide); (try rw [← ex_16]); unfold zSetR zHc; (repeat (first | rw [if_pos (by omega)] | rw [if_neg (by omega)])) <;> omega)), (show (((-2) : Int32).toInt = 1 → gce = vp_updL gce (160 * s_.toInt + i.toInt).toNat (zNar (gso s_.toNatClampNeg).toInt v)) from by (have k9 : ((-2) : Int32).toInt = -2 := (by decide); intro h; exfalso; omega)), (show (((-2) : Int32).toInt ≠ 1 → gce = gce) from by (have k9 : ((-2) : Int32).toInt = -2 := (by decide); intro h; exact rfl)), trivial⟩, zRet ht hP hD [4, 5, 0, 1, 2, 3] (by decide) rfl⟩, hS.F ht⟩) hS.2.2 dX8_set_30
    · exact absurd c_15 (by decide)
end
section
set_option maxHeartbeats 4000000 in
set_option maxRecDepth 100000 in
theorem c_F_M_copy (l : Launch) (D : va_G) (cI cJ cZ cP cS : ClassId) (po : zPool) (m0 mrf mki mpa mta mla msl mco mhe mso msi msh mce mca mwo mnu mte mwa mke mma mth mtr : Nat) (npu nte nat_ nde nto nse nhu nga nsd nfa nba npl nen nnu nwr nra nik : Int32) (grf ghe gso gsi : Nat → Int32) (gce gca : Nat → Int64) (s_ q_ i j n : Int32) (hy0 : 0 ≤ npu.toInt) (hy1 : npu.toInt ≤ 8) (hy2 : 4 ≤ nte.toInt) (hy3 : nte.toInt ≤ 40) (hy4 : 0 ≤ nat_.toInt) (hy5 : nat_.toInt ≤ 40) (hy6 : 0 ≤ nde.toInt) (hy7 : nde.toInt ≤ 24) (hy8 : 0 ≤ nhu.toInt) (hy9 : nhu.toInt ≤ 9) (hy10 : 0 ≤ nra.toInt) (hy11 : nra.toInt ≤ 2000) (hy12 : 0 ≤ nik.toInt) (hy13 : nik.toInt ≤ 1) (hp_ghe : zRg ghe (0) 2) (hp_gso : zRg gso (0) 3) (hp_gsi : zRg gsi (0) 160) (hpz : Nat) : Met l yX8_copy wsX8_copy ({ frames := 1, cells := 0, slots := 0, locals := 21 }) (va_Pc [.ref m0, .int s_, .int q_, .int i, .int j, .int n] (zW D (zKT cI cJ cZ cP cS) po [(zMO m0 npu nte nat_ nde nto nse nhu nga nsd nfa mrf mki mpa mta mla msl mco mhe mso msi msh mce mca mwo mnu mte nba npl nen nnu nwr mwa mke mma mth mtr nra nik), (mrf, .inl (cI, 8, .inl grf)), (mhe, .inl (cI, 8, .inl ghe)), (mso, .inl (cI, 8, .inl gso)), (msi, .inl (cI, 8, .inl gsi)), (mce, .inl (cJ, 1280, .inr (.inl gce))), (mca, .inl (cJ, 160, .inr (.inl gca)))] hpz)) (va_Qi (fun (r : Int32) (u : (Nat → Int32) × (Nat → Int64) × (Nat → Int64)) => (r.toInt = zCopR s_.toInt q_.toInt (zH2 (ghe s_.toNatClampNeg).toInt (gso s_.toNatClampNeg).toInt) (zH2 (ghe q_.toNatClampNeg).toInt (gso q_.toNatClampNeg).toInt) (gsi s_.toNatClampNeg).toInt (gsi q_.toNatClampNeg).toInt i.toInt j.toInt n.toInt) ∧ ((r.toInt = 1 → ∀ m : Nat, u.2.1 m = (if 160 * q_.toInt + j.toInt ≤ (m : Int) ∧ (m : Int) < 160 * q_.toInt + j.toInt + n.toInt then gce (160 * s_.toInt + i.toInt + ((m : Int) - (160 * q_.toInt + j.toInt))).toNat else gce m))) ∧ ((r.toInt ≠ 1 → u.2.1 = gce)) ∧ (True)) (zB D [(zMO m0 npu nte nat_ nde nto nse nhu nga nsd nfa mrf mki mpa mta mla msl mco mhe mso msi msh mce mca mwo mnu mte nba npl nen nnu nwr mwa mke mma mth mtr nra nik), (mrf, .inl (cI, 8, .inl grf)), (mhe, .inl (cI, 8, .inl ghe)), (mso, .inl (cI, 8, .inl gso)), (msi, .inl (cI, 8, .inl gsi)), (mce, .inl (cJ, 1280, .inr (.inl gce))), (mca, .inl (cJ, 160, .inr (.inl gca)))] hpz (fun (u : (Nat → Int32) × (Nat → Int64) × (Nat → Int64)) => [(zMO m0 npu nte nat_ nde nto nse nhu nga nsd nfa mrf mki mpa mta mla msl mco mhe mso msi msh mce mca mwo mnu mte nba npl nen nnu nwr mwa mke mma mth mtr nra nik), (mrf, .inl (cI, 8, .inl u.1)), (mhe, .inl (cI, 8, .inl ghe)), (mso, .inl (cI, 8, .inl gso)), (msi, .inl (cI, 8, .inl gsi)), (mce, .inl (cJ, 1280, .inr (.inl u.2.1))), (mca, .inl (cJ, 160, .inr (.inl u.2.2)))])) (va_A [(zMO m0 npu nte nat_ nde nto nse nhu nga nsd nfa mrf mki mpa mta mla msl mco mhe mso msi msh mce mca mwo mnu mte nba npl nen nnu nwr mwa mke mma mth mtr nra nik), (mrf, .inl (cI, 8, .inl grf)), (mhe, .inl (cI, 8, .inl ghe)), (mso, .inl (cI, 8, .inl gso)), (msi, .inl (cI, 8, .inl gsi)), (mce, .inl (cJ, 1280, .inr (.inl gce))), (mca, .inl (cJ, 160, .inr (.inl gca)))] hpz)) 0 0 (va_A [(zMO m0 npu nte nat_ nde nto nse nhu nga nsd nfa mrf mki mpa mta mla msl mco mhe mso msi msh mce mca mwo mnu mte nba npl nen nnu nwr mwa mke mma mth mtr nra nik), (mrf, .inl (cI, 8, .inl grf)), (mhe, .inl (cI, 8, .inl ghe)), (mso, .inl (cI, 8, .inl gso)), (msi, .inl (cI, 8, .inl gsi)), (mce, .inl (cJ, 1280, .inr (.inl gce))), (mca, .inl (cJ, 160, .inr (.inl gca)))] hpz) := by
  refine Met.ofW (cc := cX8_copy) (maxL := 7) (ret := (some .int)) (by decide) rfl ?_
  intro p e s m args below meth c s₁ B hml hv
  obtain ⟨rfl, hsz, hP, hK, hD0, hN, hZ⟩ := hv
  have hx := B.exec
  have hb := B.bytes
  have hr := B.returns
  have hts := atoms_spec (ws := wsX8_copy) B.pre
  have hown : s.vm.findClass RX8 = some m.cls := findClass_of_methodNamed B.named
  have hlocks := B.notSynchronized
  subst hsz
  have hD := hD0.self (sz := s.heap.size)
  have hA := zA_of hD
  have hl := lv_entry ([.ref m0, .int s_, .int q_, .int i, .int j, .int n]) (n := 7) (Nat.le_of_ble_eq_true rfl)
  rw [lg_entry_eq]
  generalize (lg_sl ([.ref m0, .int s_, .int q_, .int i, .int j, .int n]) ++ List.replicate (7 - (lg_sl ([.ref m0, .int s_, .int q_, .int i, .int j, .int n])).length) Slot.unset).toArray = ls at hl ⊢
  replace hl : lv_has ls 7 [(0, .ref m0), (1, .int s_), (2, .int q_), (3, .int i), (4, .int j), (5, .int n)] := hl
  refine zw_begin hP hD (fun H locs hP1 hS => ?_)
  clear hP
  have hP := hP1
  clear hP1
  refine zcut (T := fun K => ∀ (H : Heap) (locs : List Loc) (ls : Array Slot) (hP : va_P D vwCl [(zMO m0 npu nte nat_ nde nto nse nhu nga nsd nfa mrf mki mpa mta mla msl mco mhe mso msi msh mce mca mwo mnu mte nba npl nen nnu nwr mwa mke mma mth mtr nra nik), (mrf, .inl (cI, 8, .inl grf)), (mhe, .inl (cI, 8, .inl ghe)), (mso, .inl (cI, 8, .inl gso)), (msi, .inl (cI, 8, .inl gsi)), (mce, .inl (cJ, 1280, .inr (.inl gce))), (mca, .inl (cJ, 160, .inr (.inl gca)))] H) (hD : va_D (va_A [(zMO m0 npu nte nat_ nde nto nse nhu nga nsd nfa mrf mki mpa mta mla msl mco mhe mso msi msh mce mca mwo mnu mte nba npl nen nnu nwr mwa mke mma mth mtr nra nik), (mrf, .inl (cI, 8, .inl grf)), (mhe, .inl (cI, 8, .inl ghe)), (mso, .inl (cI, 8, .inl gso)), (msi, .inl (cI, 8, .inl gsi)), (mce, .inl (cJ, 1280, .inr (.inl gce))), (mca, .inl (cJ, 160, .inr (.inl gca)))] s.heap.size) [(zMO m0 npu nte nat_ nde nto nse nhu nga nsd nfa mrf mki mpa mta mla msl mco mhe mso msi msh mce mca mwo mnu mte nba npl nen nnu nwr mwa mke mma mth mtr nra nik), (mrf, .inl (cI, 8, .inl grf)), (mhe, .inl (cI, 8, .inl ghe)), (mso, .inl (cI, 8, .inl gso)), (msi, .inl (cI, 8, .inl gsi)), (mce, .inl (cJ, 1280, .inr (.inl gce))), (mca, .inl (cJ, 160, .inr (.inl gca)))]) (hS : va_S (va_A [(zMO m0 npu nte nat_ nde nto nse nhu nga nsd nfa mrf mki mpa mta mla msl mco mhe mso msi msh mce mca mwo mnu mte nba npl nen nnu nwr mwa mke mma mth mtr nra nik), (mrf, .inl (cI, 8, .inl grf)), (mhe, .inl (cI, 8, .inl ghe)), (mso, .inl (cI, 8, .inl gso)), (msi, .inl (cI, 8, .inl gsi)), (mce, .inl (cJ, 1280, .inr (.inl gce))), (mca, .inl (cJ, 160, .inr (.inl gca)))] s.heap.size) s.heap H locs) (hl : lv_has ls 7 [(0, .ref m0), (1, .int s_), (2, .int q_), (3, .int i), (4, .int j), (5, .int n)]) (hf164_0 : (0 ≤ s_.toInt ∧ s_.toInt ≤ 7) ∧ (0 ≤ q_.toInt ∧ q_.toInt ≤ 7) ∧ 0 ≤ n.toInt ∧ 0 ≤ i.toInt ∧ 0 ≤ j.toInt ∧ i.toInt + n.toInt ≤ 160 ∧ j.toInt + n.toInt ≤ 160) (hf164_1 : zCopR s_.toInt q_.toInt (zH2 (ghe s_.toNatClampNeg).toInt (gso s_.toNatClampNeg).toInt) (zH2 (ghe q_.toNatClampNeg).toInt (gso q_.toNatClampNeg).toInt) (gsi s_.toNatClampNeg).toInt (gsi q_.toNatClampNeg).toInt i.toInt j.toInt n.toInt = 1), K H locs ls) (pc := 164) ?_ (fun hcut164 => ?_)
  · intro H locs ls hP hD hS hl hf164_0 hf164_1
    refine lv_iconst (v := 0) hx hb dX8_copy_164 (by decide) ?_
    refine lv_istore (lv' := [(6, .int 0), (0, .ref m0), (1, .int s_), (2, .int q_), (3, .int i), (4, .int j), (5, .int n)]) hx hb dX8_copy_165 hl (by decide) rfl (fun ls hl => ?_)
    obtain ⟨i_167, hi_167⟩ : ∃ i : Int32, i = 0 := ⟨_, rfl⟩
    replace hl : lv_has ls 7 [(6, .int i_167), (0, .ref m0), (1, .int s_), (2, .int q_), (3, .int i), (4, .int j), (5, .int n)] := by rw [hi_167]; exact lv_sub hl [0, 1, 2, 3, 4, 5, 6] rfl
    have h1i_167 : i_167.toInt = 0 := by rw [hi_167]; decide
    obtain ⟨nfu, hni_167⟩ : ∃ nq9 : Nat, n.toInt ≤ i_167.toInt + (nq9 : Int) := ⟨((n.toInt : Int) - 0).toNat, by omega⟩
    have hloi_167 : 0 ≤ i_167.toInt := by omega
    obtain ⟨g_1, hg_1⟩ : ∃ g : Nat → Int64, g = gca := ⟨_, rfl⟩
    replace hP : va_P D vwCl [(zMO m0 npu nte nat_ nde nto nse nhu nga nsd nfa mrf mki mpa mta mla msl mco mhe mso msi msh mce mca mwo mnu mte nba npl nen nnu nwr mwa mke mma mth mtr nra nik), (mrf, .inl (cI, 8, .inl grf)), (mhe, .inl (cI, 8, .inl ghe)), (mso, .inl (cI, 8, .inl gso)), (msi, .inl (cI, 8, .inl gsi)), (mce, .inl (cJ, 1280, .inr (.inl gce))), (mca, .inl (cJ, 160, .inr (.inl g_1)))] H := by rw [hg_1]; exact hP
    replace hD : va_D (va_A [(zMO m0 npu nte nat_ nde nto nse nhu nga nsd nfa mrf mki mpa mta mla msl mco mhe mso msi msh mce mca mwo mnu mte nba npl nen nnu nwr mwa mke mma mth mtr nra nik), (mrf, .inl (cI, 8, .inl grf)), (mhe, .inl (cI, 8, .inl ghe)), (mso, .inl (cI, 8, .inl gso)), (msi, .inl (cI, 8, .inl gsi)), (mce, .inl (cJ, 1280, .inr (.inl gce))), (mca, .inl (cJ, 160, .inr (.inl gca)))] s.heap.size) [(zMO m0 npu nte nat_ nde nto nse nhu nga nsd nfa mrf mki mpa mta mla msl mco mhe mso msi msh mce mca mwo mnu mte nba npl nen nnu nwr mwa mke mma mth mtr nra nik), (mrf, .inl (cI, 8, .inl grf)), (mhe, .inl (cI, 8, .inl ghe)), (mso, .inl (cI, 8, .inl gso)), (msi, .inl (cI, 8, .inl gsi)), (mce, .inl (cJ, 1280, .inr (.inl gce))), (mca, .inl (cJ, 160, .inr (.inl g_1)))] := by rw [hg_1]; exact hD
    have hvi_167_0 : (∀ k : Nat, (k : Int) < i_167.toInt → g_1 k = gce (160 * s_.toInt + i.toInt + (k : Int)).toNat) := by
      (try rw [hi_167]); (try rw [hg_1]); (intro k hk; exfalso; have k0 : (0 : Int32).toInt = 0 := (by decide); omega)
    have hvi_167_1 : i_167.toInt ≤ n.toInt := by
      (try rw [hi_167]); (try rw [hg_1]); first | omega | (simp; omega)
    clear h1i_167 hi_167 hg_1
    skip
    revert hni_167
    revert hloi_167
    revert hvi_167_1
    revert hvi_167_0
    revert hl
    revert hS
    revert hD
    revert hP
    revert ls
    revert locs
    revert H
    revert g_1
    revert i_167
    induction nfu with
    | zero =>
      intro i_167 g_1 H locs ls hP hD hS hl hvi_167_0 hvi_167_1 hloi_167 hni_167
      have hzi_167 : n.toInt ≤ i_167.toInt := by omega
      refine lv_iload hx hb dX8_copy_167 (lv_at hl 0 rfl) ?_
      refine lv_iload hx hb dX8_copy_169 (lv_at hl 6 rfl) ?_
      refine lv_icmp_ge (tgt := 202) hx hb dX8_copy_171 (by decide) (fun c_2 => ?_) (fun c_2 => ?_)
      · have fc_2 : n.toInt ≤ i_167.toInt := zf_le c_2 rfl rfl
        refine lv_iconst (v := 0) hx hb dX8_copy_202 (by decide) ?_
        refine lv_istore (lv' := [(6, .int 0), (0, .ref m0), (1, .int s_), (2, .int q_), (3, .int i), (4, .int j), (5, .int n)]) hx hb dX8_copy_203 hl (by decide) rfl (fun ls hl => ?_)
        obtain ⟨i_205, hi_205⟩ : ∃ i : Int32, i = 0 := ⟨_, rfl⟩
        replace hl : lv_has ls 7 [(6, .int i_205), (0, .ref m0), (1, .int s_), (2, .int q_), (3, .int i), (4, .int j), (5, .int n)] := by rw [hi_205]; exact lv_sub hl [0, 1, 2, 3, 4, 5, 6] rfl
        have h1i_205 : i_205.toInt = 0 := by rw [hi_205]; decide
        obtain ⟨nfu_205, hni_205⟩ : ∃ nq9 : Nat, n.toInt ≤ i_205.toInt + (nq9 : Int) := ⟨((n.toInt : Int) - 0).toNat, by omega⟩
        have hloi_205 : 0 ≤ i_205.toInt := by omega
        obtain ⟨g_3, hg_3⟩ : ∃ g : Nat → Int64, g = gce := ⟨_, rfl⟩
        replace hP : va_P D vwCl [(zMO m0 npu nte nat_ nde nto nse nhu nga nsd nfa mrf mki mpa mta mla msl mco mhe mso msi msh mce mca mwo mnu mte nba npl nen nnu nwr mwa mke mma mth mtr nra nik), (mrf, .inl (cI, 8, .inl grf)), (mhe, .inl (cI, 8, .inl ghe)), (mso, .inl (cI, 8, .inl gso)), (msi, .inl (cI, 8, .inl gsi)), (mce, .inl (cJ, 1280, .inr (.inl g_3))), (mca, .inl (cJ, 160, .inr (.inl g_1)))] H := by rw [hg_3]; exact hP
        replace hD : va_D (va_A [(zMO m0 npu nte nat_ nde nto nse nhu nga nsd nfa mrf mki mpa mta mla msl mco mhe mso msi msh mce mca mwo mnu mte nba npl nen nnu nwr mwa mke mma mth mtr nra nik), (mrf, .inl (cI, 8, .inl grf)), (mhe, .inl (cI, 8, .inl ghe)), (mso, .inl (cI, 8, .inl gso)), (msi, .inl (cI, 8, .inl gsi)), (mce, .inl (cJ, 1280, .inr (.inl gce))), (mca, .inl (cJ, 160, .inr (.inl gca)))] s.heap.size) [(zMO m0 npu nte nat_ nde nto nse nhu nga nsd nfa mrf mki mpa mta mla msl mco mhe mso msi msh mce mca mwo mnu mte nba npl nen nnu nwr mwa mke mma mth mtr nra nik), (mrf, .inl (cI, 8, .inl grf)), (mhe, .inl (cI, 8, .inl ghe)), (mso, .inl (cI, 8, .inl gso)), (msi, .inl (cI, 8, .inl gsi)), (mce, .inl (cJ, 1280, .inr (.inl g_3))), (mca, .inl (cJ, 160, .inr (.inl g_1)))] := by rw [hg_3]; exact hD
        have hvi_205_0 : (∀ m : Nat, g_3 m = (if 160 * q_.toInt + j.toInt ≤ (m : Int) ∧ (m : Int) < 160 * q_.toInt + j.toInt + i_205.toInt then gce (160 * s_.toInt + i.toInt + ((m : Int) - (160 * q_.toInt + j.toInt))).toNat else gce m)) := by
          (try rw [hi_205]); (try rw [hg_3]); (intro m; rw [if_neg (by have k0 : (0 : Int32).toInt = 0 := (by decide); omega)])
        have hvi_205_1 : i_205.toInt ≤ n.toInt := by
          (try rw [hi_205]); (try rw [hg_3]); first | omega | (simp; omega)
        clear h1i_205 hi_205 hg_3
        skip
        revert hni_205
        revert hloi_205
        revert hvi_205_1
        revert hvi_205_0
        revert hl
        revert hS
        revert hD
        revert hP
        revert ls
        revert locs
        revert H
        revert g_3
        revert i_205
        induction nfu_205 with
        | zero =>
          intro i_205 g_3 H locs ls hP hD hS hl hvi_205_0 hvi_205_1 hloi_205 hni_205
          have hzi_205 : n.toInt ≤ i_205.toInt := by omega
          refine lv_iload hx hb dX8_copy_205 (lv_at hl 0 rfl) ?_
          refine lv_iload hx hb dX8_copy_207 (lv_at hl 6 rfl) ?_
          refine lv_icmp_ge (tgt := 241) hx hb dX8_copy_209 (by decide) (fun c_4 => ?_) (fun c_4 => ?_)
          · have fc_4 : n.toInt ≤ i_205.toInt := zf_le c_4 rfl rfl
            refine lv_iconst (v := 1) hx hb dX8_copy_241 (by decide) ?_
            exact W.iret (v := 1) hx hb hr (fun t ht hW => ⟨⟨1, (grf, g_3, g_1), rfl, ⟨(show (1 : Int32).toInt = zCopR s_.toInt q_.toInt (zH2 (ghe s_.toNatClampNeg).toInt (gso s_.toNatClampNeg).toInt) (zH2 (ghe q_.toNatClampNeg).toInt (gso q_.toNatClampNeg).toInt) (gsi s_.toNatClampNeg).toInt (gsi q_.toNatClampNeg).toInt i.toInt j.toInt n.toInt from by (rw [hf164_1]; decide)), (show ((1 : Int32).toInt = 1 → ∀ m : Nat, g_3 m = (if 160 * q_.toInt + j.toInt ≤ (m : Int) ∧ (m : Int) < 160 * q_.toInt + j.toInt + n.toInt then gce (160 * s_.toInt + i.toInt + ((m : Int) - (160 * q_.toInt + j.toInt))).toNat else gce m)) from by (have k9 : (1 : Int32).toInt = 1 := (by decide); intro h; exact (fun m => by (have h9 : i_205.toInt = n.toInt := (by omega); have z := hvi_205_0 m; rw [h9] at z; exact z)))), (show ((1 : Int32).toInt ≠ 1 → g_3 = gce) from by (have k9 : (1 : Int32).toInt = 1 := (by decide); intro h; exfalso; omega)), trivial⟩, zRet ht hP hD [0, 1, 2, 3, 4, 5, 6] (by decide) rfl⟩, hS.F ht⟩) hS.2.2 dX8_copy_242
          · exfalso; have fc_4 : i_205.toInt < n.toInt := zf_nle c_4 rfl rfl; omega
        | succ nfu_205 ih_205 =>
          intro i_205 g_3 H locs ls hP hD hS hl hvi_205_0 hvi_205_1 hloi_205 hni_205
          refine lv_iload hx hb dX8_copy_205 (lv_at hl 0 rfl) ?_
          refine lv_iload hx hb dX8_copy_207 (lv_at hl 6 rfl) ?_
          refine lv_icmp_ge (tgt := 241) hx hb dX8_copy_209 (by decide) (fun c_5 => ?_) (fun c_5 => ?_)
          · have fc_5 : n.toInt ≤ i_205.toInt := zf_le c_5 rfl rfl
            refine lv_iconst (v := 1) hx hb dX8_copy_241 (by decide) ?_
            exact W.iret (v := 1) hx hb hr (fun t ht hW => ⟨⟨1, (grf, g_3, g_1), rfl, ⟨(show (1 : Int32).toInt = zCopR s_.toInt q_.toInt (zH2 (ghe s_.toNatClampNeg).toInt (gso s_.toNatClampNeg).toInt) (zH2 (ghe q_.toNatClampNeg).toInt (gso q_.toNatClampNeg).toInt) (gsi s_.toNatClampNeg).toInt (gsi q_.toNatClampNeg).toInt i.toInt j.toInt n.toInt from by (rw [hf164_1]; decide)), (show ((1 : Int32).toInt = 1 → ∀ m : Nat, g_3 m = (if 160 * q_.toInt + j.toInt ≤ (m : Int) ∧ (m : Int) < 160 * q_.toInt + j.toInt + n.toInt then gce (160 * s_.toInt + i.toInt + ((m : Int) - (160 * q_.toInt + j.toInt))).toNat else gce m)) from by (have k9 : (1 : Int32).toInt = 1 := (by decide); intro h; exact (fun m => by (have h9 : i_205.toInt = n.toInt := (by omega); have z := hvi_205_0 m; rw [h9] at z; exact z)))), (show ((1 : Int32).toInt ≠ 1 → g_3 = gce) from by (have k9 : (1 : Int32).toInt = 1 := (by decide); intro h; exfalso; omega)), trivial⟩, zRet ht hP hD [0, 1, 2, 3, 4, 5, 6] (by decide) rfl⟩, hS.F ht⟩) hS.2.2 dX8_copy_242
          · have fc_5 : i_205.toInt < n.toInt := zf_nle c_5 rfl rfl
            refine lv_aload_n hx hb dX8_copy_212 rfl (lv_at hl 1 rfl) ?_
            refine va_get (D := D) (ci := 8) (v := .ref mce) (C := RX8) (T := TX8) (N := 38) hx hb hts hi_X8_copy_8 hown hK hP 0 rfl rfl 21 (by decide) (hts (.fieldLink RX8 59 "TheLiningsInItModel" "cells" "[J") (List.mem_of_getElem? (i := 5) rfl)) (fun _ h9 => h9) rfl dX8_copy_213 ?_
            refine lv_sipush (v := 160) hx hb dX8_copy_216 (by decide) ?_
            refine lv_iload_n hx hb dX8_copy_219 rfl (lv_at hl 3 rfl) ?_
            refine lv_imul hx hb dX8_copy_220 ?_
            refine lv_topi (fun x_6 ex_6 => ?_)
            have qx_6 : x_6.toInt = 160 * q_.toInt := by rw [ex_6]; exact zf_mul (by decide) rfl (by omega) (by omega)
            refine lv_iload hx hb dX8_copy_221 (lv_at hl 5 rfl) ?_
            refine lv_iadd hx hb dX8_copy_223 ?_
            refine lv_topi (fun x_7 ex_7 => ?_)
            have qx_7 : x_7.toInt = x_6.toInt + j.toInt := by rw [ex_7]; exact zf_add rfl rfl (by omega) (by omega)
            refine lv_iload hx hb dX8_copy_224 (lv_at hl 0 rfl) ?_
            refine lv_iadd hx hb dX8_copy_226 ?_
            refine lv_topi (fun x_8 ex_8 => ?_)
            have qx_8 : x_8.toInt = x_7.toInt + i_205.toInt := by rw [ex_8]; exact zf_add rfl rfl (by omega) (by omega)
            refine lv_aload_n hx hb dX8_copy_227 rfl (lv_at hl 1 rfl) ?_
            refine va_get (D := D) (ci := 8) (v := .ref mca) (C := RX8) (T := TX8) (N := 38) hx hb hts hi_X8_copy_8 hown hK hP 0 rfl rfl 22 (by decide) (hts (.fieldLink RX8 63 "TheLiningsInItModel" "carried" "[J") (List.mem_of_getElem? (i := 4) rfl)) (fun _ h9 => h9) rfl dX8_copy_228 ?_
            refine lv_iload hx hb dX8_copy_231 (lv_at hl 0 rfl) ?_
            refine va_lald hx hb hK hP 6 1 rfl rfl (zf_in (by omega) (by omega)) dX8_copy_233 ?_
            refine lv_topl (fun x_9 ex_9 => ?_)
            refine va_last hx hb hK hP hD hS 5 1 rfl rfl (zf_in (by omega) (by omega)) dX8_copy_234 (fun H locs hP hD hS => ?_)
            obtain ⟨g_10, hg_10⟩ : ∃ g : Nat → Int64, g = vp_updL g_3 x_8.toNatClampNeg x_9 := ⟨_, rfl⟩
            rw [← hg_10] at hP hD
            have h9R := zRe (ws' := [(zMO m0 npu nte nat_ nde nto nse nhu nga nsd nfa mrf mki mpa mta mla msl mco mhe mso msi msh mce mca mwo mnu mte nba npl nen nnu nwr mwa mke mma mth mtr nra nik), (mrf, .inl (cI, 8, .inl grf)), (mhe, .inl (cI, 8, .inl ghe)), (mso, .inl (cI, 8, .inl gso)), (msi, .inl (cI, 8, .inl gsi)), (mce, .inl (cJ, 1280, .inr (.inl g_10))), (mca, .inl (cJ, 160, .inr (.inl g_1)))]) hP hD rfl
            clear hP hD
            obtain ⟨hP, hD⟩ := h9R
            obtain ⟨x_11, ex_11⟩ : ∃ y : Int32, y = i_205 + 1 := ⟨_, rfl⟩
            have qx_11 : x_11.toInt = i_205.toInt + 1 := dw_inc ex_11 fc_5
            refine lv_iinc (v := x_11) (lv' := [(6, .int x_11), (0, .ref m0), (1, .int s_), (2, .int q_), (3, .int i), (4, .int j), (5, .int n)]) hx hb dX8_copy_235 hl (k := 0) rfl ex_11.symm (by decide) rfl (fun ls hl => ?_)
            refine lv_goto (tgt := 205) hx hb dX8_copy_238 (by decide) ?_
            exact ih_205 x_11 (g_10) _ _ _ (hP.sub [0, 1, 2, 3, 4, 5, 6] rfl) (hD.sub [0, 1, 2, 3, 4, 5, 6] (by decide) rfl) hS (lv_sub hl [0, 1, 2, 3, 4, 5, 6] rfl) (show (∀ m : Nat, g_10 m = (if 160 * q_.toInt + j.toInt ≤ (m : Int) ∧ (m : Int) < 160 * q_.toInt + j.toInt + x_11.toInt then gce (160 * s_.toInt + i.toInt + ((m : Int) - (160 * q_.toInt + j.toInt))).toNat else gce m)) from by (intro m; rw [hg_10]; simp only [vp_updL]; have h7 : x_8.toNatClampNeg = x_8.toInt.toNat := rfl; have h6 : i_205.toNatClampNeg = i_205.toInt.toNat := rfl; by_cases e9 : m = x_8.toNatClampNeg; (rw [if_pos e9, if_pos (by omega), ex_9, hvi_167_0 _ (by omega)]; congr 2; omega); (rw [if_neg e9, hvi_205_0 m]; by_cases e8 : 160 * q_.toInt + j.toInt ≤ (m : Int) ∧ (m : Int) < 160 * q_.toInt + j.toInt + i_205.toInt; (rw [if_pos e8, if_pos (by omega)]); (rw [if_neg e8, if_neg (by omega)])))) (show x_11.toInt ≤ n.toInt from by omega) (dw_lo hloi_205 qx_11) (dw_hn hni_205 qx_11)
      · exfalso; have fc_2 : i_167.toInt < n.toInt := zf_nle c_2 rfl rfl; omega
    | succ nfu ih =>
      intro i_167 g_1 H locs ls hP hD hS hl hvi_167_0 hvi_167_1 hloi_167 hni_167
      refine lv_iload hx hb dX8_copy_167 (lv_at hl 0 rfl) ?_
      refine lv_iload hx hb dX8_copy_169 (lv_at hl 6 rfl) ?_
      refine lv_icmp_ge (tgt := 202) hx hb dX8_copy_171 (by decide) (fun c_12 => ?_) (fun c_12 => ?_)
      · have fc_12 : n.toInt ≤ i_167.toInt := zf_le c_12 rfl rfl
        refine lv_iconst (v := 0) hx hb dX8_copy_202 (by decide) ?_
        refine lv_istore (lv' := [(6, .int 0), (0, .ref m0), (1, .int s_), (2, .int q_), (3, .int i), (4, .int j), (5, .int n)]) hx hb dX8_copy_203 hl (by decide) rfl (fun ls hl => ?_)
        obtain ⟨i_205, hi_205⟩ : ∃ i : Int32, i = 0 := ⟨_, rfl⟩
        replace hl : lv_has ls 7 [(6, .int i_205), (0, .ref m0), (1, .int s_), (2, .int q_), (3, .int i), (4, .int j), (5, .int n)] := by rw [hi_205]; exact lv_sub hl [0, 1, 2, 3, 4, 5, 6] rfl
        have h1i_205 : i_205.toInt = 0 := by rw [hi_205]; decide
        obtain ⟨nfu_205, hni_205⟩ : ∃ nq9 : Nat, n.toInt ≤ i_205.toInt + (nq9 : Int) := ⟨((n.toInt : Int) - 0).toNat, by omega⟩
        have hloi_205 : 0 ≤ i_205.toInt := by omega
        obtain ⟨g_13, hg_13⟩ : ∃ g : Nat → Int64, g = gce := ⟨_, rfl⟩
        replace hP : va_P D vwCl [(zMO m0 npu nte nat_ nde nto nse nhu nga nsd nfa mrf mki mpa mta mla msl mco mhe mso msi msh mce mca mwo mnu mte nba npl nen nnu nwr mwa mke mma mth mtr nra nik), (mrf, .inl (cI, 8, .inl grf)), (mhe, .inl (cI, 8, .inl ghe)), (mso, .inl (cI, 8, .inl gso)), (msi, .inl (cI, 8, .inl gsi)), (mce, .inl (cJ, 1280, .inr (.inl g_13))), (mca, .inl (cJ, 160, .inr (.inl g_1)))] H := by rw [hg_13]; exact hP
        replace hD : va_D (va_A [(zMO m0 npu nte nat_ nde nto nse nhu nga nsd nfa mrf mki mpa mta mla msl mco mhe mso msi msh mce mca mwo mnu mte nba npl nen nnu nwr mwa mke mma mth mtr nra nik), (mrf, .inl (cI, 8, .inl grf)), (mhe, .inl (cI, 8, .inl ghe)), (mso, .inl (cI, 8, .inl gso)), (msi, .inl (cI, 8, .inl gsi)), (mce, .inl (cJ, 1280, .inr (.inl gce))), (mca, .inl (cJ, 160, .inr (.inl gca)))] s.heap.size) [(zMO m0 npu nte nat_ nde nto nse nhu nga nsd nfa mrf mki mpa mta mla msl mco mhe mso msi msh mce mca mwo mnu mte nba npl nen nnu nwr mwa mke mma mth mtr nra nik), (mrf, .inl (cI, 8, .inl grf)), (mhe, .inl (cI, 8, .inl ghe)), (mso, .inl (cI, 8, .inl gso)), (msi, .inl (cI, 8, .inl gsi)), (mce, .inl (cJ, 1280, .inr (.inl g_13))), (mca, .inl (cJ, 160, .inr (.inl g_1)))] := by rw [hg_13]; exact hD
        have hvi_205_0 : (∀ m : Nat, g_13 m = (if 160 * q_.toInt + j.toInt ≤ (m : Int) ∧ (m : Int) < 160 * q_.toInt + j.toInt + i_205.toInt then gce (160 * s_.toInt + i.toInt + ((m : Int) - (160 * q_.toInt + j.toInt))).toNat else gce m)) := by
          (try rw [hi_205]); (try rw [hg_13]); (intro m; rw [if_neg (by have k0 : (0 : Int32).toInt = 0 := (by decide); omega)])
        have hvi_205_1 : i_205.toInt ≤ n.toInt := by
          (try rw [hi_205]); (try rw [hg_13]); first | omega | (simp; omega)
        clear h1i_205 hi_205 hg_13
        skip
        revert hni_205
        revert hloi_205
        revert hvi_205_1
        revert hvi_205_0
        revert hl
        revert hS
        revert hD
        revert hP
        revert ls
        revert locs
        revert H
        revert g_13
        revert i_205
        induction nfu_205 with
        | zero =>
          intro i_205 g_13 H locs ls hP hD hS hl hvi_205_0 hvi_205_1 hloi_205 hni_205
          have hzi_205 : n.toInt ≤ i_205.toInt := by omega
          refine lv_iload hx hb dX8_copy_205 (lv_at hl 0 rfl) ?_
          refine lv_iload hx hb dX8_copy_207 (lv_at hl 6 rfl) ?_
          refine lv_icmp_ge (tgt := 241) hx hb dX8_copy_209 (by decide) (fun c_14 => ?_) (fun c_14 => ?_)
          · have fc_14 : n.toInt ≤ i_205.toInt := zf_le c_14 rfl rfl
            refine lv_iconst (v := 1) hx hb dX8_copy_241 (by decide) ?_
            exact W.iret (v := 1) hx hb hr (fun t ht hW => ⟨⟨1, (grf, g_13, g_1), rfl, ⟨(show (1 : Int32).toInt = zCopR s_.toInt q_.toInt (zH2 (ghe s_.toNatClampNeg).toInt (gso s_.toNatClampNeg).toInt) (zH2 (ghe q_.toNatClampNeg).toInt (gso q_.toNatClampNeg).toInt) (gsi s_.toNatClampNeg).toInt (gsi q_.toNatClampNeg).toInt i.toInt j.toInt n.toInt from by (rw [hf164_1]; decide)), (show ((1 : Int32).toInt = 1 → ∀ m : Nat, g_13 m = (if 160 * q_.toInt + j.toInt ≤ (m : Int) ∧ (m : Int) < 160 * q_.toInt + j.toInt + n.toInt then gce (160 * s_.toInt + i.toInt + ((m : Int) - (160 * q_.toInt + j.toInt))).toNat else gce m)) from by (have k9 : (1 : Int32).toInt = 1 := (by decide); intro h; exact (fun m => by (have h9 : i_205.toInt = n.toInt := (by omega); have z := hvi_205_0 m; rw [h9] at z; exact z)))), (show ((1 : Int32).toInt ≠ 1 → g_13 = gce) from by (have k9 : (1 : Int32).toInt = 1 := (by decide); intro h; exfalso; omega)), trivial⟩, zRet ht hP hD [0, 1, 2, 3, 4, 5, 6] (by decide) rfl⟩, hS.F ht⟩) hS.2.2 dX8_copy_242
          · exfalso; have fc_14 : i_205.toInt < n.toInt := zf_nle c_14 rfl rfl; omega
        | succ nfu_205 ih_205 =>
          intro i_205 g_13 H locs ls hP hD hS hl hvi_205_0 hvi_205_1 hloi_205 hni_205
          refine lv_iload hx hb dX8_copy_205 (lv_at hl 0 rfl) ?_
          refine lv_iload hx hb dX8_copy_207 (lv_at hl 6 rfl) ?_
          refine lv_icmp_ge (tgt := 241) hx hb dX8_copy_209 (by decide) (fun c_15 => ?_) (fun c_15 => ?_)
          · have fc_15 : n.toInt ≤ i_205.toInt := zf_le c_15 rfl rfl
            refine lv_iconst (v := 1) hx hb dX8_copy_241 (by decide) ?_
            exact W.iret (v := 1) hx hb hr (fun t ht hW => ⟨⟨1, (grf, g_13, g_1), rfl, ⟨(show (1 : Int32).toInt = zCopR s_.toInt q_.toInt (zH2 (ghe s_.toNatClampNeg).toInt (gso s_.toNatClampNeg).toInt) (zH2 (ghe q_.toNatClampNeg).toInt (gso q_.toNatClampNeg).toInt) (gsi s_.toNatClampNeg).toInt (gsi q_.toNatClampNeg).toInt i.toInt j.toInt n.toInt from by (rw [hf164_1]; decide)), (show ((1 : Int32).toInt = 1 → ∀ m : Nat, g_13 m = (if 160 * q_.toInt + j.toInt ≤ (m : Int) ∧ (m : Int) < 160 * q_.toInt + j.toInt + n.toInt then gce (160 * s_.toInt + i.toInt + ((m : Int) - (160 * q_.toInt + j.toInt))).toNat else gce m)) from by (have k9 : (1 : Int32).toInt = 1 := (by decide); intro h; exact (fun m => by (have h9 : i_205.toInt = n.toInt := (by omega); have z := hvi_205_0 m; rw [h9] at z; exact z)))), (show ((1 : Int32).toInt ≠ 1 → g_13 = gce) from by (have k9 : (1 : Int32).toInt = 1 := (by decide); intro h; exfalso; omega)), trivial⟩, zRet ht hP hD [0, 1, 2, 3, 4, 5, 6] (by decide) rfl⟩, hS.F ht⟩) hS.2.2 dX8_copy_242
          · have fc_15 : i_205.toInt < n.toInt := zf_nle c_15 rfl rfl
            refine lv_aload_n hx hb dX8_copy_212 rfl (lv_at hl 1 rfl) ?_
            refine va_get (D := D) (ci := 8) (v := .ref mce) (C := RX8) (T := TX8) (N := 38) hx hb hts hi_X8_copy_8 hown hK hP 0 rfl rfl 21 (by decide) (hts (.fieldLink RX8 59 "TheLiningsInItModel" "cells" "[J") (List.mem_of_getElem? (i := 5) rfl)) (fun _ h9 => h9) rfl dX8_copy_213 ?_
            refine lv_sipush (v := 160) hx hb dX8_copy_216 (by decide) ?_
            refine lv_iload_n hx hb dX8_copy_219 rfl (lv_at hl 3 rfl) ?_
            refine lv_imul hx hb dX8_copy_220 ?_
            refine lv_topi (fun x_16 ex_16 => ?_)
            have qx_16 : x_16.toInt = 160 * q_.toInt := by rw [ex_16]; exact zf_mul (by decide) rfl (by omega) (by omega)
            refine lv_iload hx hb dX8_copy_221 (lv_at hl 5 rfl) ?_
            refine lv_iadd hx hb dX8_copy_223 ?_
            refine lv_topi (fun x_17 ex_17 => ?_)
            have qx_17 : x_17.toInt = x_16.toInt + j.toInt := by rw [ex_17]; exact zf_add rfl rfl (by omega) (by omega)
            refine lv_iload hx hb dX8_copy_224 (lv_at hl 0 rfl) ?_
            refine lv_iadd hx hb dX8_copy_226 ?_
            refine lv_topi (fun x_18 ex_18 => ?_)
            have qx_18 : x_18.toInt = x_17.toInt + i_205.toInt := by rw [ex_18]; exact zf_add rfl rfl (by omega) (by omega)
            refine lv_aload_n hx hb dX8_copy_227 rfl (lv_at hl 1 rfl) ?_
            refine va_get (D := D) (ci := 8) (v := .ref mca) (C := RX8) (T := TX8) (N := 38) hx hb hts hi_X8_copy_8 hown hK hP 0 rfl rfl 22 (by decide) (hts (.fieldLink RX8 63 "TheLiningsInItModel" "carried" "[J") (List.mem_of_getElem? (i := 4) rfl)) (fun _ h9 => h9) rfl dX8_copy_228 ?_
            refine lv_iload hx hb dX8_copy_231 (lv_at hl 0 rfl) ?_
            refine va_lald hx hb hK hP 6 1 rfl rfl (zf_in (by omega) (by omega)) dX8_copy_233 ?_
            refine lv_topl (fun x_19 ex_19 => ?_)
            refine va_last hx hb hK hP hD hS 5 1 rfl rfl (zf_in (by omega) (by omega)) dX8_copy_234 (fun H locs hP hD hS => ?_)
            obtain ⟨g_20, hg_20⟩ : ∃ g : Nat → Int64, g = vp_updL g_13 x_18.toNatClampNeg x_19 := ⟨_, rfl⟩
            rw [← hg_20] at hP hD
            have h9R := zRe (ws' := [(zMO m0 npu nte nat_ nde nto nse nhu nga nsd nfa mrf mki mpa mta mla msl mco mhe mso msi msh mce mca mwo mnu mte nba npl nen nnu nwr mwa mke mma mth mtr nra nik), (mrf, .inl (cI, 8, .inl grf)), (mhe, .inl (cI, 8, .inl ghe)), (mso, .inl (cI, 8, .inl gso)), (msi, .inl (cI, 8, .inl gsi)), (mce, .inl (cJ, 1280, .inr (.inl g_20))), (mca, .inl (cJ, 160, .inr (.inl g_1)))]) hP hD rfl
            clear hP hD
            obtain ⟨hP, hD⟩ := h9R
            obtain ⟨x_21, ex_21⟩ : ∃ y : Int32, y = i_205 + 1 := ⟨_, rfl⟩
            have qx_21 : x_21.toInt = i_205.toInt + 1 := dw_inc ex_21 fc_15
            refine lv_iinc (v := x_21) (lv' := [(6, .int x_21), (0, .ref m0), (1, .int s_), (2, .int q_), (3, .int i), (4, .int j), (5, .int n)]) hx hb dX8_copy_235 hl (k := 0) rfl ex_21.symm (by decide) rfl (fun ls hl => ?_)
            refine lv_goto (tgt := 205) hx hb dX8_copy_238 (by decide) ?_
            exact ih_205 x_21 (g_20) _ _ _ (hP.sub [0, 1, 2, 3, 4, 5, 6] rfl) (hD.sub [0, 1, 2, 3, 4, 5, 6] (by decide) rfl) hS (lv_sub hl [0, 1, 2, 3, 4, 5, 6] rfl) (show (∀ m : Nat, g_20 m = (if 160 * q_.toInt + j.toInt ≤ (m : Int) ∧ (m : Int) < 160 * q_.toInt + j.toInt + x_21.toInt then gce (160 * s_.toInt + i.toInt + ((m : Int) - (160 * q_.toInt + j.toInt))).toNat else gce m)) from by (intro m; rw [hg_20]; simp only [vp_updL]; have h7 : x_18.toNatClampNeg = x_18.toInt.toNat := rfl; have h6 : i_205.toNatClampNeg = i_205.toInt.toNat := rfl; by_cases e9 : m = x_18.toNatClampNeg; (rw [if_pos e9, if_pos (by omega), ex_19, hvi_167_0 _ (by omega)]; congr 2; omega); (rw [if_neg e9, hvi_205_0 m]; by_cases e8 : 160 * q_.toInt + j.toInt ≤ (m : Int) ∧ (m : Int) < 160 * q_.toInt + j.toInt + i_205.toInt; (rw [if_pos e8, if_pos (by omega)]); (rw [if_neg e8, if_neg (by omega)])))) (show x_21.toInt ≤ n.toInt from by omega) (dw_lo hloi_205 qx_21) (dw_hn hni_205 qx_21)
      · have fc_12 : i_167.toInt < n.toInt := zf_nle c_12 rfl rfl
        refine lv_aload_n hx hb dX8_copy_174 rfl (lv_at hl 1 rfl) ?_
        refine va_get (D := D) (ci := 8) (v := .ref mca) (C := RX8) (T := TX8) (N := 38) hx hb hts hi_X8_copy_8 hown hK hP 0 rfl rfl 22 (by decide) (hts (.fieldLink RX8 63 "TheLiningsInItModel" "carried" "[J") (List.mem_of_getElem? (i := 4) rfl)) (fun _ h9 => h9) rfl dX8_copy_175 ?_
        refine lv_iload hx hb dX8_copy_178 (lv_at hl 0 rfl) ?_
        refine lv_aload_n hx hb dX8_copy_180 rfl (lv_at hl 1 rfl) ?_
        refine va_get (D := D) (ci := 8) (v := .ref mce) (C := RX8) (T := TX8) (N := 38) hx hb hts hi_X8_copy_8 hown hK hP 0 rfl rfl 21 (by decide) (hts (.fieldLink RX8 59 "TheLiningsInItModel" "cells" "[J") (List.mem_of_getElem? (i := 5) rfl)) (fun _ h9 => h9) rfl dX8_copy_181 ?_
        refine lv_sipush (v := 160) hx hb dX8_copy_184 (by decide) ?_
        refine lv_iload_n hx hb dX8_copy_187 rfl (lv_at hl 2 rfl) ?_
        refine lv_imul hx hb dX8_copy_188 ?_
        refine lv_topi (fun x_22 ex_22 => ?_)
        have qx_22 : x_22.toInt = 160 * s_.toInt := by rw [ex_22]; exact zf_mul (by decide) rfl (by omega) (by omega)
        refine lv_iload_n hx hb dX8_copy_189 rfl (lv_at hl 4 rfl) ?_
        refine lv_iadd hx hb dX8_copy_190 ?_
        refine lv_topi (fun x_23 ex_23 => ?_)
        have qx_23 : x_23.toInt = x_22.toInt + i.toInt := by rw [ex_23]; exact zf_add rfl rfl (by omega) (by omega)
        refine lv_iload hx hb dX8_copy_191 (lv_at hl 0 rfl) ?_
        refine lv_iadd hx hb dX8_copy_193 ?_
        refine lv_topi (fun x_24 ex_24 => ?_)
        have qx_24 : x_24.toInt = x_23.toInt + i_167.toInt := by rw [ex_24]; exact zf_add rfl rfl (by omega) (by omega)
        refine va_lald hx hb hK hP 5 1 rfl rfl (zf_in (by omega) (by omega)) dX8_copy_194 ?_
        refine lv_topl (fun x_25 ex_25 => ?_)
        refine va_last hx hb hK hP hD hS 6 1 rfl rfl (zf_in (by omega) (by omega)) dX8_copy_195 (fun H locs hP hD hS => ?_)
        obtain ⟨g_26, hg_26⟩ : ∃ g : Nat → Int64, g = vp_updL g_1 i_167.toNatClampNeg x_25 := ⟨_, rfl⟩
        rw [← hg_26] at hP hD
        have h9R := zRe (ws' := [(zMO m0 npu nte nat_ nde nto nse nhu nga nsd nfa mrf mki mpa mta mla msl mco mhe mso msi msh mce mca mwo mnu mte nba npl nen nnu nwr mwa mke mma mth mtr nra nik), (mrf, .inl (cI, 8, .inl grf)), (mhe, .inl (cI, 8, .inl ghe)), (mso, .inl (cI, 8, .inl gso)), (msi, .inl (cI, 8, .inl gsi)), (mce, .inl (cJ, 1280, .inr (.inl gce))), (mca, .inl (cJ, 160, .inr (.inl g_26)))]) hP hD rfl
        clear hP hD
        obtain ⟨hP, hD⟩ := h9R
        obtain ⟨x_27, ex_27⟩ : ∃ y : Int32, y = i_167 + 1 := ⟨_, rfl⟩
        have qx_27 : x_27.toInt = i_167.toInt + 1 := dw_inc ex_27 fc_12
        refine lv_iinc (v := x_27) (lv' := [(6, .int x_27), (0, .ref m0), (1, .int s_), (2, .int q_), (3, .int i), (4, .int j), (5, .int n)]) hx hb dX8_copy_196 hl (k := 0) rfl ex_27.symm (by decide) rfl (fun ls hl => ?_)
        refine lv_goto (tgt := 167) hx hb dX8_copy_199 (by decide) ?_
        exact ih x_27 (g_26) _ _ _ (hP.sub [0, 1, 2, 3, 4, 5, 6] rfl) (hD.sub [0, 1, 2, 3, 4, 5, 6] (by decide) rfl) hS (lv_sub hl [0, 1, 2, 3, 4, 5, 6] rfl) (show (∀ k : Nat, (k : Int) < x_27.toInt → g_26 k = gce (160 * s_.toInt + i.toInt + (k : Int)).toNat) from by (intro k hk; rw [hg_26]; simp only [vp_updL]; have h7 : i_167.toNatClampNeg = i_167.toInt.toNat := rfl; by_cases e9 : k = i_167.toNatClampNeg; (rw [if_pos e9, ex_25]; congr 1; (show x_24.toInt.toNat = _; congr 1; omega)); (rw [if_neg e9]; exact hvi_167_0 k (by omega)))) (show x_27.toInt ≤ n.toInt from by omega) (dw_lo hloi_167 qx_27) (dw_hn hni_167 qx_27)
  refine lv_aload_n hx hb dX8_copy_0 rfl (lv_at hl 0 rfl) ?_
  refine lv_iload_n hx hb dX8_copy_1 rfl (lv_at hl 1 rfl) ?_
  refine zc_V (As := [.int s_]) (rest := []) ⟨hx, hb, hml, hown, hts⟩ (c_M_isShelf l D cI cJ cZ cP cS po m0 mrf mki mpa mta mla msl mco mhe mso msi msh mce mca mwo mnu mte mwa mke mma mth mtr (npu) (nte) (nat_) (nde) (nto) (nse) (nhu) (nga) (nsd) (nfa) (nba) (npl) (nen) (nnu) (nwr) (nra) (nik) (s_) hy0 hy1 hy2 hy3 hy4 hy5 hy6 hy7 hy8 hy9 hy10 hy11 hy12 hy13) (cwV 1 hts gX8_copy_X8_isShelf rfl rfl rfl ⟨rfl, dh_X8_isShelf⟩ ⟨Nat.le_of_ble_eq_true rfl, Nat.le_of_ble_eq_true rfl⟩) hK hN (hZ.kept hS) hP (hP.sub [0] rfl) (va_recv (q := (RX8, TX8, 38)) hK hP (ci := 8) (q0 := 0) rfl rfl) rfl hl.1 rfl (Nat.le_of_ble_eq_true rfl) dX8_copy_2 ⟨Nat.le_of_ble_eq_true rfl, Nat.le_of_ble_eq_true rfl⟩ (fun r_28 hr_28 => ?_)
  rcases hr_28 with ⟨rfl, g_29⟩ | ⟨rfl, g_30, g_31⟩ | ⟨rfl, g_32, g_33⟩
  · refine lv_if_eq (tgt := 16) hx hb dX8_copy_5 (by decide) (fun c_34 => ?_) (fun c_34 => ?_)
    · refine lv_aload_n hx hb dX8_copy_16 rfl (lv_at hl 0 rfl) ?_
      refine lv_iconst (v := (-1)) hx hb dX8_copy_17 (by decide) ?_
      skip
      refine zw_V (As := [.int (-1)]) (rest := []) (wr := [(mhe, .inl (cI, 8, .inl ghe)), (mso, .inl (cI, 8, .inl gso)), (msi, .inl (cI, 8, .inl gsi)), (mce, .inl (cJ, 1280, .inr (.inl gce))), (mca, .inl (cJ, 160, .inr (.inl gca)))]) ⟨hx, hb, hml, hown, hts⟩ (c_M_no_1 l D cI cJ cZ cP cS po m0 mrf mki mpa mta mla msl mco mhe mso msi msh mce mca mwo mnu mte mwa mke mma mth mtr (npu) (nte) (nat_) (nde) (nto) (nse) (nhu) (nga) (nsd) (nfa) (nba) (npl) (nen) (nnu) (nwr) (nra) (nik) grf hy0 hy1 hy2 hy3 hy4 hy5 hy6 hy7 hy8 hy9 hy10 hy11 hy12 hy13 H.size) (cwV 1 hts gX8_copy_X8_no rfl rfl rfl ⟨rfl, dh_X8_no⟩ ⟨Nat.le_of_ble_eq_true rfl, Nat.le_of_ble_eq_true rfl⟩) hK hN (hZ.kept hS) hP hD hS hA [0, 1] [2, 3, 4, 5, 6] rfl rfl (by decide) (by decide) (by decide) (va_recv (q := (RX8, TX8, 38)) hK hP (ci := 8) (q0 := 0) rfl rfl) rfl hl.1 rfl (Nat.le_of_ble_eq_true rfl) dX8_copy_18 ⟨Nat.le_of_ble_eq_true rfl, Nat.le_of_ble_eq_true rfl⟩ (fun r_35 u_36 H locs hr_35 hP hD hS => ?_)
      obtain ⟨q_37, rfl⟩ : ∃ z, z = u_36 := ⟨_, rfl⟩
      have h9R := zRe (ws' := [(mhe, .inl (cI, 8, .inl ghe)), (mso, .inl (cI, 8, .inl gso)), (msi, .inl (cI, 8, .inl gsi)), (mce, .inl (cJ, 1280, .inr (.inl gce))), (mca, .inl (cJ, 160, .inr (.inl gca))), (zMO m0 npu nte nat_ nde nto nse nhu nga nsd nfa mrf mki mpa mta mla msl mco mhe mso msi msh mce mca mwo mnu mte nba npl nen nnu nwr mwa mke mma mth mtr nra nik), (mrf, .inl (cI, 8, .inl q_37))]) hP hD rfl
      clear hP hD
      obtain ⟨hP, hD⟩ := h9R
      obtain rfl := hr_35
      exact W.iret (v := (-1)) hx hb hr (fun t ht hW => ⟨⟨(-1), (q_37, gce, gca), rfl, ⟨(show ((-1) : Int32).toInt = zCopR s_.toInt q_.toInt (zH2 (ghe s_.toNatClampNeg).toInt (gso s_.toNatClampNeg).toInt) (zH2 (ghe q_.toNatClampNeg).toInt (gso q_.toNatClampNeg).toInt) (gsi s_.toNatClampNeg).toInt (gsi q_.toNatClampNeg).toInt i.toInt j.toInt n.toInt from by (have k9 : ((-1) : Int32).toInt = -1 := (by decide); have gq1 := hp_gso s_.toNatClampNeg; have gq2 := hp_gso q_.toNatClampNeg; unfold zCopR zH2; (repeat (first | rw [if_pos (by omega)] | rw [if_neg (by omega)])) <;> omega)), (show (((-1) : Int32).toInt = 1 → ∀ m : Nat, gce m = (if 160 * q_.toInt + j.toInt ≤ (m : Int) ∧ (m : Int) < 160 * q_.toInt + j.toInt + n.toInt then gce (160 * s_.toInt + i.toInt + ((m : Int) - (160 * q_.toInt + j.toInt))).toNat else gce m)) from by (have k9 : ((-1) : Int32).toInt = -1 := (by decide); intro h; exfalso; omega)), (show (((-1) : Int32).toInt ≠ 1 → gce = gce) from by (have k9 : ((-1) : Int32).toInt = -1 := (by decide); intro h; exact rfl)), trivial⟩, zRet ht hP hD [5, 6, 0, 1, 2, 3, 4] (by decide) rfl⟩, hS.F ht⟩) hS.2.2 dX8_copy_21
    · exact absurd c_34 (by decide)
  · refine lv_if_eq (tgt := 16) hx hb dX8_copy_5 (by decide) (fun c_38 => ?_) (fun c_38 => ?_)
    · refine lv_aload_n hx hb dX8_copy_16 rfl (lv_at hl 0 rfl) ?_
      refine lv_iconst (v := (-1)) hx hb dX8_copy_17 (by decide) ?_
      skip
      refine zw_V (As := [.int (-1)]) (rest := []) (wr := [(mhe, .inl (cI, 8, .inl ghe)), (mso, .inl (cI, 8, .inl gso)), (msi, .inl (cI, 8, .inl gsi)), (mce, .inl (cJ, 1280, .inr (.inl gce))), (mca, .inl (cJ, 160, .inr (.inl gca)))]) ⟨hx, hb, hml, hown, hts⟩ (c_M_no_1 l D cI cJ cZ cP cS po m0 mrf mki mpa mta mla msl mco mhe mso msi msh mce mca mwo mnu mte mwa mke mma mth mtr (npu) (nte) (nat_) (nde) (nto) (nse) (nhu) (nga) (nsd) (nfa) (nba) (npl) (nen) (nnu) (nwr) (nra) (nik) grf hy0 hy1 hy2 hy3 hy4 hy5 hy6 hy7 hy8 hy9 hy10 hy11 hy12 hy13 H.size) (cwV 1 hts gX8_copy_X8_no rfl rfl rfl ⟨rfl, dh_X8_no⟩ ⟨Nat.le_of_ble_eq_true rfl, Nat.le_of_ble_eq_true rfl⟩) hK hN (hZ.kept hS) hP hD hS hA [0, 1] [2, 3, 4, 5, 6] rfl rfl (by decide) (by decide) (by decide) (va_recv (q := (RX8, TX8, 38)) hK hP (ci := 8) (q0 := 0) rfl rfl) rfl hl.1 rfl (Nat.le_of_ble_eq_true rfl) dX8_copy_18 ⟨Nat.le_of_ble_eq_true rfl, Nat.le_of_ble_eq_true rfl⟩ (fun r_39 u_40 H locs hr_39 hP hD hS => ?_)
      obtain ⟨q_41, rfl⟩ : ∃ z, z = u_40 := ⟨_, rfl⟩
      have h9R := zRe (ws' := [(mhe, .inl (cI, 8, .inl ghe)), (mso, .inl (cI, 8, .inl gso)), (msi, .inl (cI, 8, .inl gsi)), (mce, .inl (cJ, 1280, .inr (.inl gce))), (mca, .inl (cJ, 160, .inr (.inl gca))), (zMO m0 npu nte nat_ nde nto nse nhu nga nsd nfa mrf mki mpa mta mla msl mco mhe mso msi msh mce mca mwo mnu mte nba npl nen nnu nwr mwa mke mma mth mtr nra nik), (mrf, .inl (cI, 8, .inl q_41))]) hP hD rfl
      clear hP hD
      obtain ⟨hP, hD⟩ := h9R
      obtain rfl := hr_39
      exact W.iret (v := (-1)) hx hb hr (fun t ht hW => ⟨⟨(-1), (q_41, gce, gca), rfl, ⟨(show ((-1) : Int32).toInt = zCopR s_.toInt q_.toInt (zH2 (ghe s_.toNatClampNeg).toInt (gso s_.toNatClampNeg).toInt) (zH2 (ghe q_.toNatClampNeg).toInt (gso q_.toNatClampNeg).toInt) (gsi s_.toNatClampNeg).toInt (gsi q_.toNatClampNeg).toInt i.toInt j.toInt n.toInt from by (have k9 : ((-1) : Int32).toInt = -1 := (by decide); have gq1 := hp_gso s_.toNatClampNeg; have gq2 := hp_gso q_.toNatClampNeg; unfold zCopR zH2; (repeat (first | rw [if_pos (by omega)] | rw [if_neg (by omega)])) <;> omega)), (show (((-1) : Int32).toInt = 1 → ∀ m : Nat, gce m = (if 160 * q_.toInt + j.toInt ≤ (m : Int) ∧ (m : Int) < 160 * q_.toInt + j.toInt + n.toInt then gce (160 * s_.toInt + i.toInt + ((m : Int) - (160 * q_.toInt + j.toInt))).toNat else gce m)) from by (have k9 : ((-1) : Int32).toInt = -1 := (by decide); intro h; exfalso; omega)), (show (((-1) : Int32).toInt ≠ 1 → gce = gce) from by (have k9 : ((-1) : Int32).toInt = -1 := (by decide); intro h; exact rfl)), trivial⟩, zRet ht hP hD [5, 6, 0, 1, 2, 3, 4] (by decide) rfl⟩, hS.F ht⟩) hS.2.2 dX8_copy_21
    · exact absurd c_38 (by decide)
  · refine lv_if_eq (tgt := 16) hx hb dX8_copy_5 (by decide) (fun c_42 => ?_) (fun c_42 => ?_)
    · exact absurd c_42 (by decide)
    · refine lv_aload_n hx hb dX8_copy_8 rfl (lv_at hl 0 rfl) ?_
      refine lv_iload_n hx hb dX8_copy_9 rfl (lv_at hl 2 rfl) ?_
      refine zc_V (As := [.int q_]) (rest := []) ⟨hx, hb, hml, hown, hts⟩ (c_M_isShelf l D cI cJ cZ cP cS po m0 mrf mki mpa mta mla msl mco mhe mso msi msh mce mca mwo mnu mte mwa mke mma mth mtr (npu) (nte) (nat_) (nde) (nto) (nse) (nhu) (nga) (nsd) (nfa) (nba) (npl) (nen) (nnu) (nwr) (nra) (nik) (q_) hy0 hy1 hy2 hy3 hy4 hy5 hy6 hy7 hy8 hy9 hy10 hy11 hy12 hy13) (cwV 1 hts gX8_copy_X8_isShelf rfl rfl rfl ⟨rfl, dh_X8_isShelf⟩ ⟨Nat.le_of_ble_eq_true rfl, Nat.le_of_ble_eq_true rfl⟩) hK hN (hZ.kept hS) hP (hP.sub [0] rfl) (va_recv (q := (RX8, TX8, 38)) hK hP (ci := 8) (q0 := 0) rfl rfl) rfl hl.1 rfl (Nat.le_of_ble_eq_true rfl) dX8_copy_10 ⟨Nat.le_of_ble_eq_true rfl, Nat.le_of_ble_eq_true rfl⟩ (fun r_43 hr_43 => ?_)
      rcases hr_43 with ⟨rfl, g_44⟩ | ⟨rfl, g_45, g_46⟩ | ⟨rfl, g_47, g_48⟩
      · refine lv_if_ne (tgt := 22) hx hb dX8_copy_13 (by decide) (fun c_49 => ?_) (fun c_49 => ?_)
        · exact absurd c_49 (by decide)
        · refine lv_aload_n hx hb dX8_copy_16 rfl (lv_at hl 0 rfl) ?_
          refine lv_iconst (v := (-1)) hx hb dX8_copy_17 (by decide) ?_
          skip
          refine zw_V (As := [.int (-1)]) (rest := []) (wr := [(mhe, .inl (cI, 8, .inl ghe)), (mso, .inl (cI, 8, .inl gso)), (msi, .inl (cI, 8, .inl gsi)), (mce, .inl (cJ, 1280, .inr (.inl gce))), (mca, .inl (cJ, 160, .inr (.inl gca)))]) ⟨hx, hb, hml, hown, hts⟩ (c_M_no_1 l D cI cJ cZ cP cS po m0 mrf mki mpa mta mla msl mco mhe mso msi msh mce mca mwo mnu mte mwa mke mma mth mtr (npu) (nte) (nat_) (nde) (nto) (nse) (nhu) (nga) (nsd) (nfa) (nba) (npl) (nen) (nnu) (nwr) (nra) (nik) grf hy0 hy1 hy2 hy3 hy4 hy5 hy6 hy7 hy8 hy9 hy10 hy11 hy12 hy13 H.size) (cwV 1 hts gX8_copy_X8_no rfl rfl rfl ⟨rfl, dh_X8_no⟩ ⟨Nat.le_of_ble_eq_true rfl, Nat.le_of_ble_eq_true rfl⟩) hK hN (hZ.kept hS) hP hD hS hA [0, 1] [2, 3, 4, 5, 6] rfl rfl (by decide) (by decide) (by decide) (va_recv (q := (RX8, TX8, 38)) hK hP (ci := 8) (q0 := 0) rfl rfl) rfl hl.1 rfl (Nat.le_of_ble_eq_true rfl) dX8_copy_18 ⟨Nat.le_of_ble_eq_true rfl, Nat.le_of_ble_eq_true rfl⟩ (fun r_50 u_51 H locs hr_50 hP hD hS => ?_)
          obtain ⟨q_52, rfl⟩ : ∃ z, z = u_51 := ⟨_, rfl⟩
          have h9R := zRe (ws' := [(mhe, .inl (cI, 8, .inl ghe)), (mso, .inl (cI, 8, .inl gso)), (msi, .inl (cI, 8, .inl gsi)), (mce, .inl (cJ, 1280, .inr (.inl gce))), (mca, .inl (cJ, 160, .inr (.inl gca))), (zMO m0 npu nte nat_ nde nto nse nhu nga nsd nfa mrf mki mpa mta mla msl mco mhe mso msi msh mce mca mwo mnu mte nba npl nen nnu nwr mwa mke mma mth mtr nra nik), (mrf, .inl (cI, 8, .inl q_52))]) hP hD rfl
          clear hP hD
          obtain ⟨hP, hD⟩ := h9R
          obtain rfl := hr_50
          exact W.iret (v := (-1)) hx hb hr (fun t ht hW => ⟨⟨(-1), (q_52, gce, gca), rfl, ⟨(show ((-1) : Int32).toInt = zCopR s_.toInt q_.toInt (zH2 (ghe s_.toNatClampNeg).toInt (gso s_.toNatClampNeg).toInt) (zH2 (ghe q_.toNatClampNeg).toInt (gso q_.toNatClampNeg).toInt) (gsi s_.toNatClampNeg).toInt (gsi q_.toNatClampNeg).toInt i.toInt j.toInt n.toInt from by (have k9 : ((-1) : Int32).toInt = -1 := (by decide); have gq1 := hp_gso s_.toNatClampNeg; have gq2 := hp_gso q_.toNatClampNeg; unfold zCopR zH2; (repeat (first | rw [if_pos (by omega)] | rw [if_neg (by omega)])) <;> omega)), (show (((-1) : Int32).toInt = 1 → ∀ m : Nat, gce m = (if 160 * q_.toInt + j.toInt ≤ (m : Int) ∧ (m : Int) < 160 * q_.toInt + j.toInt + n.toInt then gce (160 * s_.toInt + i.toInt + ((m : Int) - (160 * q_.toInt + j.toInt))).toNat else gce m)) from by (have k9 : ((-1) : Int32).toInt = -1 := (by decide); intro h; exfalso; omega)), (show (((-1) : Int32).toInt ≠ 1 → gce = gce) from by (have k9 : ((-1) : Int32).toInt = -1 := (by decide); intro h; exact rfl)), trivial⟩, zRet ht hP hD [5, 6, 0, 1, 2, 3, 4] (by decide) rfl⟩, hS.F ht⟩) hS.2.2 dX8_copy_21
      · refine lv_if_ne (tgt := 22) hx hb dX8_copy_13 (by decide) (fun c_53 => ?_) (fun c_53 => ?_)
        · exact absurd c_53 (by decide)
        · refine lv_aload_n hx hb dX8_copy_16 rfl (lv_at hl 0 rfl) ?_
          refine lv_iconst (v := (-1)) hx hb dX8_copy_17 (by decide) ?_
          skip
          refine zw_V (As := [.int (-1)]) (rest := []) (wr := [(mhe, .inl (cI, 8, .inl ghe)), (mso, .inl (cI, 8, .inl gso)), (msi, .inl (cI, 8, .inl gsi)), (mce, .inl (cJ, 1280, .inr (.inl gce))), (mca, .inl (cJ, 160, .inr (.inl gca)))]) ⟨hx, hb, hml, hown, hts⟩ (c_M_no_1 l D cI cJ cZ cP cS po m0 mrf mki mpa mta mla msl mco mhe mso msi msh mce mca mwo mnu mte mwa mke mma mth mtr (npu) (nte) (nat_) (nde) (nto) (nse) (nhu) (nga) (nsd) (nfa) (nba) (npl) (nen) (nnu) (nwr) (nra) (nik) grf hy0 hy1 hy2 hy3 hy4 hy5 hy6 hy7 hy8 hy9 hy10 hy11 hy12 hy13 H.size) (cwV 1 hts gX8_copy_X8_no rfl rfl rfl ⟨rfl, dh_X8_no⟩ ⟨Nat.le_of_ble_eq_true rfl, Nat.le_of_ble_eq_true rfl⟩) hK hN (hZ.kept hS) hP hD hS hA [0, 1] [2, 3, 4, 5, 6] rfl rfl (by decide) (by decide) (by decide) (va_recv (q := (RX8, TX8, 38)) hK hP (ci := 8) (q0 := 0) rfl rfl) rfl hl.1 rfl (Nat.le_of_ble_eq_true rfl) dX8_copy_18 ⟨Nat.le_of_ble_eq_true rfl, Nat.le_of_ble_eq_true rfl⟩ (fun r_54 u_55 H locs hr_54 hP hD hS => ?_)
          obtain ⟨q_56, rfl⟩ : ∃ z, z = u_55 := ⟨_, rfl⟩
          have h9R := zRe (ws' := [(mhe, .inl (cI, 8, .inl ghe)), (mso, .inl (cI, 8, .inl gso)), (msi, .inl (cI, 8, .inl gsi)), (mce, .inl (cJ, 1280, .inr (.inl gce))), (mca, .inl (cJ, 160, .inr (.inl gca))), (zMO m0 npu nte nat_ nde nto nse nhu nga nsd nfa mrf mki mpa mta mla msl mco mhe mso msi msh mce mca mwo mnu mte nba npl nen nnu nwr mwa mke mma mth mtr nra nik), (mrf, .inl (cI, 8, .inl q_56))]) hP hD rfl
          clear hP hD
          obtain ⟨hP, hD⟩ := h9R
          obtain rfl := hr_54
          exact W.iret (v := (-1)) hx hb hr (fun t ht hW => ⟨⟨(-1), (q_56, gce, gca), rfl, ⟨(show ((-1) : Int32).toInt = zCopR s_.toInt q_.toInt (zH2 (ghe s_.toNatClampNeg).toInt (gso s_.toNatClampNeg).toInt) (zH2 (ghe q_.toNatClampNeg).toInt (gso q_.toNatClampNeg).toInt) (gsi s_.toNatClampNeg).toInt (gsi q_.toNatClampNeg).toInt i.toInt j.toInt n.toInt from by (have k9 : ((-1) : Int32).toInt = -1 := (by decide); have gq1 := hp_gso s_.toNatClampNeg; have gq2 := hp_gso q_.toNatClampNeg; unfold zCopR zH2; (repeat (first | rw [if_pos (by omega)] | rw [if_neg (by omega)])) <;> omega)), (show (((-1) : Int32).toInt = 1 → ∀ m : Nat, gce m = (if 160 * q_.toInt + j.toInt ≤ (m : Int) ∧ (m : Int) < 160 * q_.toInt + j.toInt + n.toInt then gce (160 * s_.toInt + i.toInt + ((m : Int) - (160 * q_.toInt + j.toInt))).toNat else gce m)) from by (have k9 : ((-1) : Int32).toInt = -1 := (by decide); intro h; exfalso; omega)), (show (((-1) : Int32).toInt ≠ 1 → gce = gce) from by (have k9 : ((-1) : Int32).toInt = -1 := (by decide); intro h; exact rfl)), trivial⟩, zRet ht hP hD [5, 6, 0, 1, 2, 3, 4] (by decide) rfl⟩, hS.F ht⟩) hS.2.2 dX8_copy_21
      · refine lv_if_ne (tgt := 22) hx hb dX8_copy_13 (by decide) (fun c_57 => ?_) (fun c_57 => ?_)
        · refine lv_aload_n hx hb dX8_copy_22 rfl (lv_at hl 0 rfl) ?_
          refine va_get (D := D) (ci := 8) (v := .ref mhe) (C := RX8) (T := TX8) (N := 38) hx hb hts hi_X8_copy_8 hown hK hP 0 rfl rfl 17 (by decide) (hts (.fieldLink RX8 47 "TheLiningsInItModel" "held" "[I") (List.mem_of_getElem? (i := 1) rfl)) (fun _ h9 => h9) rfl dX8_copy_23 ?_
          refine lv_iload_n hx hb dX8_copy_26 rfl (lv_at hl 1 rfl) ?_
          refine va_iald hx hb hK hP 2 0 rfl rfl (zf_in (by omega) (by omega)) dX8_copy_27 ?_
          refine lv_topi (fun x_58 ex_58 => ?_)
          have bx_58 : 0 ≤ x_58.toInt ∧ x_58.toInt ≤ 2 := by rw [ex_58]; exact hp_ghe _
          refine lv_iconst (v := 2) hx hb dX8_copy_28 (by decide) ?_
          refine lv_icmp_eq (tgt := 77) hx hb dX8_copy_29 (by decide) (fun c_59 => ?_) (fun c_59 => ?_)
          · have fc_59 : x_58.toInt = 2 := zf_eq c_59 rfl (by decide)
            refine lv_aload_n hx hb dX8_copy_77 rfl (lv_at hl 0 rfl) ?_
            refine lv_bipush (v := (-2)) hx hb dX8_copy_78 (by decide) ?_
            skip
            refine zw_V (As := [.int (-2)]) (rest := []) (wr := [(mhe, .inl (cI, 8, .inl ghe)), (mso, .inl (cI, 8, .inl gso)), (msi, .inl (cI, 8, .inl gsi)), (mce, .inl (cJ, 1280, .inr (.inl gce))), (mca, .inl (cJ, 160, .inr (.inl gca)))]) ⟨hx, hb, hml, hown, hts⟩ (c_M_no_2 l D cI cJ cZ cP cS po m0 mrf mki mpa mta mla msl mco mhe mso msi msh mce mca mwo mnu mte mwa mke mma mth mtr (npu) (nte) (nat_) (nde) (nto) (nse) (nhu) (nga) (nsd) (nfa) (nba) (npl) (nen) (nnu) (nwr) (nra) (nik) grf hy0 hy1 hy2 hy3 hy4 hy5 hy6 hy7 hy8 hy9 hy10 hy11 hy12 hy13 H.size) (cwV 1 hts gX8_copy_X8_no rfl rfl rfl ⟨rfl, dh_X8_no⟩ ⟨Nat.le_of_ble_eq_true rfl, Nat.le_of_ble_eq_true rfl⟩) hK hN (hZ.kept hS) hP hD hS hA [0, 1] [2, 3, 4, 5, 6] rfl rfl (by decide) (by decide) (by decide) (va_recv (q := (RX8, TX8, 38)) hK hP (ci := 8) (q0 := 0) rfl rfl) rfl hl.1 rfl (Nat.le_of_ble_eq_true rfl) dX8_copy_80 ⟨Nat.le_of_ble_eq_true rfl, Nat.le_of_ble_eq_true rfl⟩ (fun r_60 u_61 H locs hr_60 hP hD hS => ?_)
            obtain ⟨q_62, rfl⟩ : ∃ z, z = u_61 := ⟨_, rfl⟩
            have h9R := zRe (ws' := [(mhe, .inl (cI, 8, .inl ghe)), (mso, .inl (cI, 8, .inl gso)), (msi, .inl (cI, 8, .inl gsi)), (mce, .inl (cJ, 1280, .inr (.inl gce))), (mca, .inl (cJ, 160, .inr (.inl gca))), (zMO m0 npu nte nat_ nde nto nse nhu nga nsd nfa mrf mki mpa mta mla msl mco mhe mso msi msh mce mca mwo mnu mte nba npl nen nnu nwr mwa mke mma mth mtr nra nik), (mrf, .inl (cI, 8, .inl q_62))]) hP hD rfl
            clear hP hD
            obtain ⟨hP, hD⟩ := h9R
            obtain rfl := hr_60
            exact W.iret (v := (-2)) hx hb hr (fun t ht hW => ⟨⟨(-2), (q_62, gce, gca), rfl, ⟨(show ((-2) : Int32).toInt = zCopR s_.toInt q_.toInt (zH2 (ghe s_.toNatClampNeg).toInt (gso s_.toNatClampNeg).toInt) (zH2 (ghe q_.toNatClampNeg).toInt (gso q_.toNatClampNeg).toInt) (gsi s_.toNatClampNeg).toInt (gsi q_.toNatClampNeg).toInt i.toInt j.toInt n.toInt from by (have k9 : ((-2) : Int32).toInt = -2 := (by decide); have gq1 := hp_gso s_.toNatClampNeg; have gq2 := hp_gso q_.toNatClampNeg; (try rw [← ex_58]); unfold zCopR zH2; (repeat (first | rw [if_pos (by omega)] | rw [if_neg (by omega)])) <;> omega)), (show (((-2) : Int32).toInt = 1 → ∀ m : Nat, gce m = (if 160 * q_.toInt + j.toInt ≤ (m : Int) ∧ (m : Int) < 160 * q_.toInt + j.toInt + n.toInt then gce (160 * s_.toInt + i.toInt + ((m : Int) - (160 * q_.toInt + j.toInt))).toNat else gce m)) from by (have k9 : ((-2) : Int32).toInt = -2 := (by decide); intro h; exfalso; omega)), (show (((-2) : Int32).toInt ≠ 1 → gce = gce) from by (have k9 : ((-2) : Int32).toInt = -2 := (by decide); intro h; exact rfl)), trivial⟩, zRet ht hP hD [5, 6, 0, 1, 2, 3, 4] (by decide) rfl⟩, hS.F ht⟩) hS.2.2 dX8_copy_83
          · have fc_59 : x_58.toInt ≠ 2 := zf_ne c_59 rfl (by decide)
            refine lv_aload_n hx hb dX8_copy_32 rfl (lv_at hl 0 rfl) ?_
            refine va_get (D := D) (ci := 8) (v := .ref mhe) (C := RX8) (T := TX8) (N := 38) hx hb hts hi_X8_copy_8 hown hK hP 0 rfl rfl 17 (by decide) (hts (.fieldLink RX8 47 "TheLiningsInItModel" "held" "[I") (List.mem_of_getElem? (i := 1) rfl)) (fun _ h9 => h9) rfl dX8_copy_33 ?_
            refine lv_iload_n hx hb dX8_copy_36 rfl (lv_at hl 2 rfl) ?_
            refine va_iald hx hb hK hP 2 0 rfl rfl (zf_in (by omega) (by omega)) dX8_copy_37 ?_
            refine lv_topi (fun x_63 ex_63 => ?_)
            have bx_63 : 0 ≤ x_63.toInt ∧ x_63.toInt ≤ 2 := by rw [ex_63]; exact hp_ghe _
            refine lv_iconst (v := 2) hx hb dX8_copy_38 (by decide) ?_
            refine lv_icmp_eq (tgt := 77) hx hb dX8_copy_39 (by decide) (fun c_64 => ?_) (fun c_64 => ?_)
            · have fc_64 : x_63.toInt = 2 := zf_eq c_64 rfl (by decide)
              refine lv_aload_n hx hb dX8_copy_77 rfl (lv_at hl 0 rfl) ?_
              refine lv_bipush (v := (-2)) hx hb dX8_copy_78 (by decide) ?_
              skip
              refine zw_V (As := [.int (-2)]) (rest := []) (wr := [(mhe, .inl (cI, 8, .inl ghe)), (mso, .inl (cI, 8, .inl gso)), (msi, .inl (cI, 8, .inl gsi)), (mce, .inl (cJ, 1280, .inr (.inl gce))), (mca, .inl (cJ, 160, .inr (.inl gca)))]) ⟨hx, hb, hml, hown, hts⟩ (c_M_no_2 l D cI cJ cZ cP cS po m0 mrf mki mpa mta mla msl mco mhe mso msi msh mce mca mwo mnu mte mwa mke mma mth mtr (npu) (nte) (nat_) (nde) (nto) (nse) (nhu) (nga) (nsd) (nfa) (nba) (npl) (nen) (nnu) (nwr) (nra) (nik) grf hy0 hy1 hy2 hy3 hy4 hy5 hy6 hy7 hy8 hy9 hy10 hy11 hy12 hy13 H.size) (cwV 1 hts gX8_copy_X8_no rfl rfl rfl ⟨rfl, dh_X8_no⟩ ⟨Nat.le_of_ble_eq_true rfl, Nat.le_of_ble_eq_true rfl⟩) hK hN (hZ.kept hS) hP hD hS hA [0, 1] [2, 3, 4, 5, 6] rfl rfl (by decide) (by decide) (by decide) (va_recv (q := (RX8, TX8, 38)) hK hP (ci := 8) (q0 := 0) rfl rfl) rfl hl.1 rfl (Nat.le_of_ble_eq_true rfl) dX8_copy_80 ⟨Nat.le_of_ble_eq_true rfl, Nat.le_of_ble_eq_true rfl⟩ (fun r_65 u_66 H locs hr_65 hP hD hS => ?_)
              obtain ⟨q_67, rfl⟩ : ∃ z, z = u_66 := ⟨_, rfl⟩
              have h9R := zRe (ws' := [(mhe, .inl (cI, 8, .inl ghe)), (mso, .inl (cI, 8, .inl gso)), (msi, .inl (cI, 8, .inl gsi)), (mce, .inl (cJ, 1280, .inr (.inl gce))), (mca, .inl (cJ, 160, .inr (.inl gca))), (zMO m0 npu nte nat_ nde nto nse nhu nga nsd nfa mrf mki mpa mta mla msl mco mhe mso msi msh mce mca mwo mnu mte nba npl nen nnu nwr mwa mke mma mth mtr nra nik), (mrf, .inl (cI, 8, .inl q_67))]) hP hD rfl
              clear hP hD
              obtain ⟨hP, hD⟩ := h9R
              obtain rfl := hr_65
              exact W.iret (v := (-2)) hx hb hr (fun t ht hW => ⟨⟨(-2), (q_67, gce, gca), rfl, ⟨(show ((-2) : Int32).toInt = zCopR s_.toInt q_.toInt (zH2 (ghe s_.toNatClampNeg).toInt (gso s_.toNatClampNeg).toInt) (zH2 (ghe q_.toNatClampNeg).toInt (gso q_.toNatClampNeg).toInt) (gsi s_.toNatClampNeg).toInt (gsi q_.toNatClampNeg).toInt i.toInt j.toInt n.toInt from by (have k9 : ((-2) : Int32).toInt = -2 := (by decide); have gq1 := hp_gso s_.toNatClampNeg; have gq2 := hp_gso q_.toNatClampNeg; (try rw [← ex_58]); (try rw [← ex_63]); unfold zCopR zH2; (repeat (first | rw [if_pos (by omega)] | rw [if_neg (by omega)])) <;> omega)), (show (((-2) : Int32).toInt = 1 → ∀ m : Nat, gce m = (if 160 * q_.toInt + j.toInt ≤ (m : Int) ∧ (m : Int) < 160 * q_.toInt + j.toInt + n.toInt then gce (160 * s_.toInt + i.toInt + ((m : Int) - (160 * q_.toInt + j.toInt))).toNat else gce m)) from by (have k9 : ((-2) : Int32).toInt = -2 := (by decide); intro h; exfalso; omega)), (show (((-2) : Int32).toInt ≠ 1 → gce = gce) from by (have k9 : ((-2) : Int32).toInt = -2 := (by decide); intro h; exact rfl)), trivial⟩, zRet ht hP hD [5, 6, 0, 1, 2, 3, 4] (by decide) rfl⟩, hS.F ht⟩) hS.2.2 dX8_copy_83
            · have fc_64 : x_63.toInt ≠ 2 := zf_ne c_64 rfl (by decide)
              refine lv_aload_n hx hb dX8_copy_42 rfl (lv_at hl 0 rfl) ?_
              refine va_get (D := D) (ci := 8) (v := .ref mhe) (C := RX8) (T := TX8) (N := 38) hx hb hts hi_X8_copy_8 hown hK hP 0 rfl rfl 17 (by decide) (hts (.fieldLink RX8 47 "TheLiningsInItModel" "held" "[I") (List.mem_of_getElem? (i := 1) rfl)) (fun _ h9 => h9) rfl dX8_copy_43 ?_
              refine lv_iload_n hx hb dX8_copy_46 rfl (lv_at hl 1 rfl) ?_
              refine va_iald hx hb hK hP 2 0 rfl rfl (zf_in (by omega) (by omega)) dX8_copy_47 ?_
              refine lv_topi (fun y_68 ey_68 => ?_)
              obtain rfl : x_58 = y_68 := ex_58.trans ey_68.symm
              refine lv_iconst (v := 1) hx hb dX8_copy_48 (by decide) ?_
              refine lv_icmp_ne (tgt := 84) hx hb dX8_copy_49 (by decide) (fun c_69 => ?_) (fun c_69 => ?_)
              · have fc_69 : x_58.toInt ≠ 1 := zf_ne c_69 rfl (by decide)
                refine lv_aload_n hx hb dX8_copy_84 rfl (lv_at hl 0 rfl) ?_
                refine va_get (D := D) (ci := 8) (v := .ref mhe) (C := RX8) (T := TX8) (N := 38) hx hb hts hi_X8_copy_8 hown hK hP 0 rfl rfl 17 (by decide) (hts (.fieldLink RX8 47 "TheLiningsInItModel" "held" "[I") (List.mem_of_getElem? (i := 1) rfl)) (fun _ h9 => h9) rfl dX8_copy_85 ?_
                refine lv_iload_n hx hb dX8_copy_88 rfl (lv_at hl 1 rfl) ?_
                refine va_iald hx hb hK hP 2 0 rfl rfl (zf_in (by omega) (by omega)) dX8_copy_89 ?_
                refine lv_topi (fun y_70 ey_70 => ?_)
                obtain rfl : x_58 = y_70 := ex_58.trans ey_70.symm
                refine lv_if_eq (tgt := 102) hx hb dX8_copy_90 (by decide) (fun c_71 => ?_) (fun c_71 => ?_)
                · have fc_71 : x_58.toInt = 0 := zf_eq c_71 rfl (by decide)
                  refine lv_aload_n hx hb dX8_copy_102 rfl (lv_at hl 0 rfl) ?_
                  refine lv_bipush (v := (-3)) hx hb dX8_copy_103 (by decide) ?_
                  skip
                  refine zw_V (As := [.int (-3)]) (rest := []) (wr := [(mhe, .inl (cI, 8, .inl ghe)), (mso, .inl (cI, 8, .inl gso)), (msi, .inl (cI, 8, .inl gsi)), (mce, .inl (cJ, 1280, .inr (.inl gce))), (mca, .inl (cJ, 160, .inr (.inl gca)))]) ⟨hx, hb, hml, hown, hts⟩ (c_M_no_3 l D cI cJ cZ cP cS po m0 mrf mki mpa mta mla msl mco mhe mso msi msh mce mca mwo mnu mte mwa mke mma mth mtr (npu) (nte) (nat_) (nde) (nto) (nse) (nhu) (nga) (nsd) (nfa) (nba) (npl) (nen) (nnu) (nwr) (nra) (nik) grf hy0 hy1 hy2 hy3 hy4 hy5 hy6 hy7 hy8 hy9 hy10 hy11 hy12 hy13 H.size) (cwV 1 hts gX8_copy_X8_no rfl rfl rfl ⟨rfl, dh_X8_no⟩ ⟨Nat.le_of_ble_eq_true rfl, Nat.le_of_ble_eq_true rfl⟩) hK hN (hZ.kept hS) hP hD hS hA [0, 1] [2, 3, 4, 5, 6] rfl rfl (by decide) (by decide) (by decide) (va_recv (q := (RX8, TX8, 38)) hK hP (ci := 8) (q0 := 0) rfl rfl) rfl hl.1 rfl (Nat.le_of_ble_eq_true rfl) dX8_copy_105 ⟨Nat.le_of_ble_eq_true rfl, Nat.le_of_ble_eq_true rfl⟩ (fun r_72 u_73 H locs hr_72 hP hD hS => ?_)
                  obtain ⟨q_74, rfl⟩ : ∃ z, z = u_73 := ⟨_, rfl⟩
                  have h9R := zRe (ws' := [(mhe, .inl (cI, 8, .inl ghe)), (mso, .inl (cI, 8, .inl gso)), (msi, .inl (cI, 8, .inl gsi)), (mce, .inl (cJ, 1280, .inr (.inl gce))), (mca, .inl (cJ, 160, .inr (.inl gca))), (zMO m0 npu nte nat_ nde nto nse nhu nga nsd nfa mrf mki mpa mta mla msl mco mhe mso msi msh mce mca mwo mnu mte nba npl nen nnu nwr mwa mke mma mth mtr nra nik), (mrf, .inl (cI, 8, .inl q_74))]) hP hD rfl
                  clear hP hD
                  obtain ⟨hP, hD⟩ := h9R
                  obtain rfl := hr_72
                  exact W.iret (v := (-3)) hx hb hr (fun t ht hW => ⟨⟨(-3), (q_74, gce, gca), rfl, ⟨(show ((-3) : Int32).toInt = zCopR s_.toInt q_.toInt (zH2 (ghe s_.toNatClampNeg).toInt (gso s_.toNatClampNeg).toInt) (zH2 (ghe q_.toNatClampNeg).toInt (gso q_.toNatClampNeg).toInt) (gsi s_.toNatClampNeg).toInt (gsi q_.toNatClampNeg).toInt i.toInt j.toInt n.toInt from by (have k9 : ((-3) : Int32).toInt = -3 := (by decide); have gq1 := hp_gso s_.toNatClampNeg; have gq2 := hp_gso q_.toNatClampNeg; (try rw [← ex_58]); (try rw [← ex_63]); unfold zCopR zH2; (repeat (first | rw [if_pos (by omega)] | rw [if_neg (by omega)])) <;> omega)), (show (((-3) : Int32).toInt = 1 → ∀ m : Nat, gce m = (if 160 * q_.toInt + j.toInt ≤ (m : Int) ∧ (m : Int) < 160 * q_.toInt + j.toInt + n.toInt then gce (160 * s_.toInt + i.toInt + ((m : Int) - (160 * q_.toInt + j.toInt))).toNat else gce m)) from by (have k9 : ((-3) : Int32).toInt = -3 := (by decide); intro h; exfalso; omega)), (show (((-3) : Int32).toInt ≠ 1 → gce = gce) from by (have k9 : ((-3) : Int32).toInt = -3 := (by decide); intro h; exact rfl)), trivial⟩, zRet ht hP hD [5, 6, 0, 1, 2, 3, 4] (by decide) rfl⟩, hS.F ht⟩) hS.2.2 dX8_copy_108
                · exfalso; have fc_71 : x_58.toInt ≠ 0 := zf_ne c_71 rfl (by decide); omega
              · have fc_69 : x_58.toInt = 1 := zf_eq c_69 rfl (by decide)
                refine lv_aload_n hx hb dX8_copy_52 rfl (lv_at hl 0 rfl) ?_
                refine va_get (D := D) (ci := 8) (v := .ref mhe) (C := RX8) (T := TX8) (N := 38) hx hb hts hi_X8_copy_8 hown hK hP 0 rfl rfl 17 (by decide) (hts (.fieldLink RX8 47 "TheLiningsInItModel" "held" "[I") (List.mem_of_getElem? (i := 1) rfl)) (fun _ h9 => h9) rfl dX8_copy_53 ?_
                refine lv_iload_n hx hb dX8_copy_56 rfl (lv_at hl 2 rfl) ?_
                refine va_iald hx hb hK hP 2 0 rfl rfl (zf_in (by omega) (by omega)) dX8_copy_57 ?_
                refine lv_topi (fun y_75 ey_75 => ?_)
                obtain rfl : x_63 = y_75 := ex_63.trans ey_75.symm
                refine lv_iconst (v := 1) hx hb dX8_copy_58 (by decide) ?_
                refine lv_icmp_ne (tgt := 84) hx hb dX8_copy_59 (by decide) (fun c_76 => ?_) (fun c_76 => ?_)
                · have fc_76 : x_63.toInt ≠ 1 := zf_ne c_76 rfl (by decide)
                  refine lv_aload_n hx hb dX8_copy_84 rfl (lv_at hl 0 rfl) ?_
                  refine va_get (D := D) (ci := 8) (v := .ref mhe) (C := RX8) (T := TX8) (N := 38) hx hb hts hi_X8_copy_8 hown hK hP 0 rfl rfl 17 (by decide) (hts (.fieldLink RX8 47 "TheLiningsInItModel" "held" "[I") (List.mem_of_getElem? (i := 1) rfl)) (fun _ h9 => h9) rfl dX8_copy_85 ?_
                  refine lv_iload_n hx hb dX8_copy_88 rfl (lv_at hl 1 rfl) ?_
                  refine va_iald hx hb hK hP 2 0 rfl rfl (zf_in (by omega) (by omega)) dX8_copy_89 ?_
                  refine lv_topi (fun y_77 ey_77 => ?_)
                  obtain rfl : x_58 = y_77 := ex_58.trans ey_77.symm
                  refine lv_if_eq (tgt := 102) hx hb dX8_copy_90 (by decide) (fun c_78 => ?_) (fun c_78 => ?_)
                  · exfalso; have fc_78 : x_58.toInt = 0 := zf_eq c_78 rfl (by decide); omega
                  · have fc_78 : x_58.toInt ≠ 0 := zf_ne c_78 rfl (by decide)
                    refine lv_aload_n hx hb dX8_copy_93 rfl (lv_at hl 0 rfl) ?_
                    refine va_get (D := D) (ci := 8) (v := .ref mhe) (C := RX8) (T := TX8) (N := 38) hx hb hts hi_X8_copy_8 hown hK hP 0 rfl rfl 17 (by decide) (hts (.fieldLink RX8 47 "TheLiningsInItModel" "held" "[I") (List.mem_of_getElem? (i := 1) rfl)) (fun _ h9 => h9) rfl dX8_copy_94 ?_
                    refine lv_iload_n hx hb dX8_copy_97 rfl (lv_at hl 2 rfl) ?_
                    refine va_iald hx hb hK hP 2 0 rfl rfl (zf_in (by omega) (by omega)) dX8_copy_98 ?_
                    refine lv_topi (fun y_79 ey_79 => ?_)
                    obtain rfl : x_63 = y_79 := ex_63.trans ey_79.symm
                    refine lv_if_ne (tgt := 109) hx hb dX8_copy_99 (by decide) (fun c_80 => ?_) (fun c_80 => ?_)
                    · exfalso; have fc_80 : x_63.toInt ≠ 0 := zf_ne c_80 rfl (by decide); omega
                    · have fc_80 : x_63.toInt = 0 := zf_eq c_80 rfl (by decide)
                      refine lv_aload_n hx hb dX8_copy_102 rfl (lv_at hl 0 rfl) ?_
                      refine lv_bipush (v := (-3)) hx hb dX8_copy_103 (by decide) ?_
                      skip
                      refine zw_V (As := [.int (-3)]) (rest := []) (wr := [(mhe, .inl (cI, 8, .inl ghe)), (mso, .inl (cI, 8, .inl gso)), (msi, .inl (cI, 8, .inl gsi)), (mce, .inl (cJ, 1280, .inr (.inl gce))), (mca, .inl (cJ, 160, .inr (.inl gca)))]) ⟨hx, hb, hml, hown, hts⟩ (c_M_no_3 l D cI cJ cZ cP cS po m0 mrf mki mpa mta mla msl mco mhe mso msi msh mce mca mwo mnu mte mwa mke mma mth mtr (npu) (nte) (nat_) (nde) (nto) (nse) (nhu) (nga) (nsd) (nfa) (nba) (npl) (nen) (nnu) (nwr) (nra) (nik) grf hy0 hy1 hy2 hy3 hy4 hy5 hy6 hy7 hy8 hy9 hy10 hy11 hy12 hy13 H.size) (cwV 1 hts gX8_copy_X8_no rfl rfl rfl ⟨rfl, dh_X8_no⟩ ⟨Nat.le_of_ble_eq_true rfl, Nat.le_of_ble_eq_true rfl⟩) hK hN (hZ.kept hS) hP hD hS hA [0, 1] [2, 3, 4, 5, 6] rfl rfl (by decide) (by decide) (by decide) (va_recv (q := (RX8, TX8, 38)) hK hP (ci := 8) (q0 := 0) rfl rfl) rfl hl.1 rfl (Nat.le_of_ble_eq_true rfl) dX8_copy_105 ⟨Nat.le_of_ble_eq_true rfl, Nat.le_of_ble_eq_true rfl⟩ (fun r_81 u_82 H locs hr_81 hP hD hS => ?_)
                      obtain ⟨q_83, rfl⟩ : ∃ z, z = u_82 := ⟨_, rfl⟩
                      have h9R := zRe (ws' := [(mhe, .inl (cI, 8, .inl ghe)), (mso, .inl (cI, 8, .inl gso)), (msi, .inl (cI, 8, .inl gsi)), (mce, .inl (cJ, 1280, .inr (.inl gce))), (mca, .inl (cJ, 160, .inr (.inl gca))), (zMO m0 npu nte nat_ nde nto nse nhu nga nsd nfa mrf mki mpa mta mla msl mco mhe mso msi msh mce mca mwo mnu mte nba npl nen nnu nwr mwa mke mma mth mtr nra nik), (mrf, .inl (cI, 8, .inl q_83))]) hP hD rfl
                      clear hP hD
                      obtain ⟨hP, hD⟩ := h9R
                      obtain rfl := hr_81
                      exact W.iret (v := (-3)) hx hb hr (fun t ht hW => ⟨⟨(-3), (q_83, gce, gca), rfl, ⟨(show ((-3) : Int32).toInt = zCopR s_.toInt q_.toInt (zH2 (ghe s_.toNatClampNeg).toInt (gso s_.toNatClampNeg).toInt) (zH2 (ghe q_.toNatClampNeg).toInt (gso q_.toNatClampNeg).toInt) (gsi s_.toNatClampNeg).toInt (gsi q_.toNatClampNeg).toInt i.toInt j.toInt n.toInt from by (have k9 : ((-3) : Int32).toInt = -3 := (by decide); have gq1 := hp_gso s_.toNatClampNeg; have gq2 := hp_gso q_.toNatClampNeg; (try rw [← ex_58]); (try rw [← ex_63]); unfold zCopR zH2; (repeat (first | rw [if_pos (by omega)] | rw [if_neg (by omega)])) <;> omega)), (show (((-3) : Int32).toInt = 1 → ∀ m : Nat, gce m = (if 160 * q_.toInt + j.toInt ≤ (m : Int) ∧ (m : Int) < 160 * q_.toInt + j.toInt + n.toInt then gce (160 * s_.toInt + i.toInt + ((m : Int) - (160 * q_.toInt + j.toInt))).toNat else gce m)) from by (have k9 : ((-3) : Int32).toInt = -3 := (by decide); intro h; exfalso; omega)), (show (((-3) : Int32).toInt ≠ 1 → gce = gce) from by (have k9 : ((-3) : Int32).toInt = -3 := (by decide); intro h; exact rfl)), trivial⟩, zRet ht hP hD [5, 6, 0, 1, 2, 3, 4] (by decide) rfl⟩, hS.F ht⟩) hS.2.2 dX8_copy_108
                · have fc_76 : x_63.toInt = 1 := zf_eq c_76 rfl (by decide)
                  refine lv_aload_n hx hb dX8_copy_62 rfl (lv_at hl 0 rfl) ?_
                  refine va_get (D := D) (ci := 8) (v := .ref mso) (C := RX8) (T := TX8) (N := 38) hx hb hts hi_X8_copy_8 hown hK hP 0 rfl rfl 18 (by decide) (hts (.fieldLink RX8 50 "TheLiningsInItModel" "sort" "[I") (List.mem_of_getElem? (i := 2) rfl)) (fun _ h9 => h9) rfl dX8_copy_63 ?_
                  refine lv_iload_n hx hb dX8_copy_66 rfl (lv_at hl 1 rfl) ?_
                  refine va_iald hx hb hK hP 3 0 rfl rfl (zf_in (by omega) (by omega)) dX8_copy_67 ?_
                  refine lv_topi (fun x_84 ex_84 => ?_)
                  have bx_84 : 0 ≤ x_84.toInt ∧ x_84.toInt ≤ 3 := by rw [ex_84]; exact hp_gso _
                  refine lv_aload_n hx hb dX8_copy_68 rfl (lv_at hl 0 rfl) ?_
                  refine va_get (D := D) (ci := 8) (v := .ref mso) (C := RX8) (T := TX8) (N := 38) hx hb hts hi_X8_copy_8 hown hK hP 0 rfl rfl 18 (by decide) (hts (.fieldLink RX8 50 "TheLiningsInItModel" "sort" "[I") (List.mem_of_getElem? (i := 2) rfl)) (fun _ h9 => h9) rfl dX8_copy_69 ?_
                  refine lv_iload_n hx hb dX8_copy_72 rfl (lv_at hl 2 rfl) ?_
                  refine va_iald hx hb hK hP 3 0 rfl rfl (zf_in (by omega) (by omega)) dX8_copy_73 ?_
                  refine lv_topi (fun x_85 ex_85 => ?_)
                  have bx_85 : 0 ≤ x_85.toInt ∧ x_85.toInt ≤ 3 := by rw [ex_85]; exact hp_gso _
                  refine lv_icmp_eq (tgt := 84) hx hb dX8_copy_74 (by decide) (fun c_86 => ?_) (fun c_86 => ?_)
                  · have fc_86 : x_84.toInt = x_85.toInt := zf_eq c_86 rfl rfl
                    refine lv_aload_n hx hb dX8_copy_84 rfl (lv_at hl 0 rfl) ?_
                    refine va_get (D := D) (ci := 8) (v := .ref mhe) (C := RX8) (T := TX8) (N := 38) hx hb hts hi_X8_copy_8 hown hK hP 0 rfl rfl 17 (by decide) (hts (.fieldLink RX8 47 "TheLiningsInItModel" "held" "[I") (List.mem_of_getElem? (i := 1) rfl)) (fun _ h9 => h9) rfl dX8_copy_85 ?_
                    refine lv_iload_n hx hb dX8_copy_88 rfl (lv_at hl 1 rfl) ?_
                    refine va_iald hx hb hK hP 2 0 rfl rfl (zf_in (by omega) (by omega)) dX8_copy_89 ?_
                    refine lv_topi (fun y_87 ey_87 => ?_)
                    obtain rfl : x_58 = y_87 := ex_58.trans ey_87.symm
                    refine lv_if_eq (tgt := 102) hx hb dX8_copy_90 (by decide) (fun c_88 => ?_) (fun c_88 => ?_)
                    · exfalso; have fc_88 : x_58.toInt = 0 := zf_eq c_88 rfl (by decide); omega
                    · have fc_88 : x_58.toInt ≠ 0 := zf_ne c_88 rfl (by decide)
                      refine lv_aload_n hx hb dX8_copy_93 rfl (lv_at hl 0 rfl) ?_
                      refine va_get (D := D) (ci := 8) (v := .ref mhe) (C := RX8) (T := TX8) (N := 38) hx hb hts hi_X8_copy_8 hown hK hP 0 rfl rfl 17 (by decide) (hts (.fieldLink RX8 47 "TheLiningsInItModel" "held" "[I") (List.mem_of_getElem? (i := 1) rfl)) (fun _ h9 => h9) rfl dX8_copy_94 ?_
                      refine lv_iload_n hx hb dX8_copy_97 rfl (lv_at hl 2 rfl) ?_
                      refine va_iald hx hb hK hP 2 0 rfl rfl (zf_in (by omega) (by omega)) dX8_copy_98 ?_
                      refine lv_topi (fun y_89 ey_89 => ?_)
                      obtain rfl : x_63 = y_89 := ex_63.trans ey_89.symm
                      refine lv_if_ne (tgt := 109) hx hb dX8_copy_99 (by decide) (fun c_90 => ?_) (fun c_90 => ?_)
                      · have fc_90 : x_63.toInt ≠ 0 := zf_ne c_90 rfl (by decide)
                        refine lv_iload hx hb dX8_copy_109 (lv_at hl 5 rfl) ?_
                        refine lv_if_ge (tgt := 121) hx hb dX8_copy_111 (by decide) (fun c_91 => ?_) (fun c_91 => ?_)
                        · have fc_91 : 0 ≤ n.toInt := zf_le c_91 (by decide) rfl
                          refine lv_iload_n hx hb dX8_copy_121 rfl (lv_at hl 3 rfl) ?_
                          refine lv_if_lt (tgt := 157) hx hb dX8_copy_122 (by decide) (fun c_92 => ?_) (fun c_92 => ?_)
                          · have fc_92 : i.toInt < 0 := zf_lt c_92 rfl (by decide)
                            refine lv_aload_n hx hb dX8_copy_157 rfl (lv_at hl 0 rfl) ?_
                            refine lv_bipush (v := (-5)) hx hb dX8_copy_158 (by decide) ?_
                            skip
                            refine zw_V (As := [.int (-5)]) (rest := []) (wr := [(mhe, .inl (cI, 8, .inl ghe)), (mso, .inl (cI, 8, .inl gso)), (msi, .inl (cI, 8, .inl gsi)), (mce, .inl (cJ, 1280, .inr (.inl gce))), (mca, .inl (cJ, 160, .inr (.inl gca)))]) ⟨hx, hb, hml, hown, hts⟩ (c_M_no_5 l D cI cJ cZ cP cS po m0 mrf mki mpa mta mla msl mco mhe mso msi msh mce mca mwo mnu mte mwa mke mma mth mtr (npu) (nte) (nat_) (nde) (nto) (nse) (nhu) (nga) (nsd) (nfa) (nba) (npl) (nen) (nnu) (nwr) (nra) (nik) grf hy0 hy1 hy2 hy3 hy4 hy5 hy6 hy7 hy8 hy9 hy10 hy11 hy12 hy13 H.size) (cwV 1 hts gX8_copy_X8_no rfl rfl rfl ⟨rfl, dh_X8_no⟩ ⟨Nat.le_of_ble_eq_true rfl, Nat.le_of_ble_eq_true rfl⟩) hK hN (hZ.kept hS) hP hD hS hA [0, 1] [2, 3, 4, 5, 6] rfl rfl (by decide) (by decide) (by decide) (va_recv (q := (RX8, TX8, 38)) hK hP (ci := 8) (q0 := 0) rfl rfl) rfl hl.1 rfl (Nat.le_of_ble_eq_true rfl) dX8_copy_160 ⟨Nat.le_of_ble_eq_true rfl, Nat.le_of_ble_eq_true rfl⟩ (fun r_93 u_94 H locs hr_93 hP hD hS => ?_)
                            obtain ⟨q_95, rfl⟩ : ∃ z, z = u_94 := ⟨_, rfl⟩
                            have h9R := zRe (ws' := [(mhe, .inl (cI, 8, .inl ghe)), (mso, .inl (cI, 8, .inl gso)), (msi, .inl (cI, 8, .inl gsi)), (mce, .inl (cJ, 1280, .inr (.inl gce))), (mca, .inl (cJ, 160, .inr (.inl gca))), (zMO m0 npu nte nat_ nde nto nse nhu nga nsd nfa mrf mki mpa mta mla msl mco mhe mso msi msh mce mca mwo mnu mte nba npl nen nnu nwr mwa mke mma mth mtr nra nik), (mrf, .inl (cI, 8, .inl q_95))]) hP hD rfl
                            clear hP hD
                            obtain ⟨hP, hD⟩ := h9R
                            obtain rfl := hr_93
                            exact W.iret (v := (-5)) hx hb hr (fun t ht hW => ⟨⟨(-5), (q_95, gce, gca), rfl, ⟨(show ((-5) : Int32).toInt = zCopR s_.toInt q_.toInt (zH2 (ghe s_.toNatClampNeg).toInt (gso s_.toNatClampNeg).toInt) (zH2 (ghe q_.toNatClampNeg).toInt (gso q_.toNatClampNeg).toInt) (gsi s_.toNatClampNeg).toInt (gsi q_.toNatClampNeg).toInt i.toInt j.toInt n.toInt from by (have k9 : ((-5) : Int32).toInt = -5 := (by decide); have gq1 := hp_gso s_.toNatClampNeg; have gq2 := hp_gso q_.toNatClampNeg; (try rw [← ex_58]); (try rw [← ex_63]); (try rw [← ex_84]); (try rw [← ex_85]); unfold zCopR zH2; (repeat (first | rw [if_pos (by omega)] | rw [if_neg (by omega)])) <;> omega)), (show (((-5) : Int32).toInt = 1 → ∀ m : Nat, gce m = (if 160 * q_.toInt + j.toInt ≤ (m : Int) ∧ (m : Int) < 160 * q_.toInt + j.toInt + n.toInt then gce (160 * s_.toInt + i.toInt + ((m : Int) - (160 * q_.toInt + j.toInt))).toNat else gce m)) from by (have k9 : ((-5) : Int32).toInt = -5 := (by decide); intro h; exfalso; omega)), (show (((-5) : Int32).toInt ≠ 1 → gce = gce) from by (have k9 : ((-5) : Int32).toInt = -5 := (by decide); intro h; exact rfl)), trivial⟩, zRet ht hP hD [5, 6, 0, 1, 2, 3, 4] (by decide) rfl⟩, hS.F ht⟩) hS.2.2 dX8_copy_163
                          · have fc_92 : 0 ≤ i.toInt := zf_nlt c_92 rfl (by decide)
                            refine lv_iload hx hb dX8_copy_125 (lv_at hl 4 rfl) ?_
                            refine lv_if_lt (tgt := 157) hx hb dX8_copy_127 (by decide) (fun c_96 => ?_) (fun c_96 => ?_)
                            · have fc_96 : j.toInt < 0 := zf_lt c_96 rfl (by decide)
                              refine lv_aload_n hx hb dX8_copy_157 rfl (lv_at hl 0 rfl) ?_
                              refine lv_bipush (v := (-5)) hx hb dX8_copy_158 (by decide) ?_
                              skip
                              refine zw_V (As := [.int (-5)]) (rest := []) (wr := [(mhe, .inl (cI, 8, .inl ghe)), (mso, .inl (cI, 8, .inl gso)), (msi, .inl (cI, 8, .inl gsi)), (mce, .inl (cJ, 1280, .inr (.inl gce))), (mca, .inl (cJ, 160, .inr (.inl gca)))]) ⟨hx, hb, hml, hown, hts⟩ (c_M_no_5 l D cI cJ cZ cP cS po m0 mrf mki mpa mta mla msl mco mhe mso msi msh mce mca mwo mnu mte mwa mke mma mth mtr (npu) (nte) (nat_) (nde) (nto) (nse) (nhu) (nga) (nsd) (nfa) (nba) (npl) (nen) (nnu) (nwr) (nra) (nik) grf hy0 hy1 hy2 hy3 hy4 hy5 hy6 hy7 hy8 hy9 hy10 hy11 hy12 hy13 H.size) (cwV 1 hts gX8_copy_X8_no rfl rfl rfl ⟨rfl, dh_X8_no⟩ ⟨Nat.le_of_ble_eq_true rfl, Nat.le_of_ble_eq_true rfl⟩) hK hN (hZ.kept hS) hP hD hS hA [0, 1] [2, 3, 4, 5, 6] rfl rfl (by decide) (by decide) (by decide) (va_recv (q := (RX8, TX8, 38)) hK hP (ci := 8) (q0 := 0) rfl rfl) rfl hl.1 rfl (Nat.le_of_ble_eq_true rfl) dX8_copy_160 ⟨Nat.le_of_ble_eq_true rfl, Nat.le_of_ble_eq_true rfl⟩ (fun r_97 u_98 H locs hr_97 hP hD hS => ?_)
                              obtain ⟨q_99, rfl⟩ : ∃ z, z = u_98 := ⟨_, rfl⟩
                              have h9R := zRe (ws' := [(mhe, .inl (cI, 8, .inl ghe)), (mso, .inl (cI, 8, .inl gso)), (msi, .inl (cI, 8, .inl gsi)), (mce, .inl (cJ, 1280, .inr (.inl gce))), (mca, .inl (cJ, 160, .inr (.inl gca))), (zMO m0 npu nte nat_ nde nto nse nhu nga nsd nfa mrf mki mpa mta mla msl mco mhe mso msi msh mce mca mwo mnu mte nba npl nen nnu nwr mwa mke mma mth mtr nra nik), (mrf, .inl (cI, 8, .inl q_99))]) hP hD rfl
                              clear hP hD
                              obtain ⟨hP, hD⟩ := h9R
                              obtain rfl := hr_97
                              exact W.iret (v := (-5)) hx hb hr (fun t ht hW => ⟨⟨(-5), (q_99, gce, gca), rfl, ⟨(show ((-5) : Int32).toInt = zCopR s_.toInt q_.toInt (zH2 (ghe s_.toNatClampNeg).toInt (gso s_.toNatClampNeg).toInt) (zH2 (ghe q_.toNatClampNeg).toInt (gso q_.toNatClampNeg).toInt) (gsi s_.toNatClampNeg).toInt (gsi q_.toNatClampNeg).toInt i.toInt j.toInt n.toInt from by (have k9 : ((-5) : Int32).toInt = -5 := (by decide); have gq1 := hp_gso s_.toNatClampNeg; have gq2 := hp_gso q_.toNatClampNeg; (try rw [← ex_58]); (try rw [← ex_63]); (try rw [← ex_84]); (try rw [← ex_85]); unfold zCopR zH2; (repeat (first | rw [if_pos (by omega)] | rw [if_neg (by omega)])) <;> omega)), (show (((-5) : Int32).toInt = 1 → ∀ m : Nat, gce m = (if 160 * q_.toInt + j.toInt ≤ (m : Int) ∧ (m : Int) < 160 * q_.toInt + j.toInt + n.toInt then gce (160 * s_.toInt + i.toInt + ((m : Int) - (160 * q_.toInt + j.toInt))).toNat else gce m)) from by (have k9 : ((-5) : Int32).toInt = -5 := (by decide); intro h; exfalso; omega)), (show (((-5) : Int32).toInt ≠ 1 → gce = gce) from by (have k9 : ((-5) : Int32).toInt = -5 := (by decide); intro h; exact rfl)), trivial⟩, zRet ht hP hD [5, 6, 0, 1, 2, 3, 4] (by decide) rfl⟩, hS.F ht⟩) hS.2.2 dX8_copy_163
                            · have fc_96 : 0 ≤ j.toInt := zf_nlt c_96 rfl (by decide)
                              refine lv_iload_n hx hb dX8_copy_130 rfl (lv_at hl 3 rfl) ?_
                              refine lv_aload_n hx hb dX8_copy_131 rfl (lv_at hl 0 rfl) ?_
                              refine va_get (D := D) (ci := 8) (v := .ref msi) (C := RX8) (T := TX8) (N := 38) hx hb hts hi_X8_copy_8 hown hK hP 0 rfl rfl 19 (by decide) (hts (.fieldLink RX8 53 "TheLiningsInItModel" "size" "[I") (List.mem_of_getElem? (i := 3) rfl)) (fun _ h9 => h9) rfl dX8_copy_132 ?_
                              refine lv_iload_n hx hb dX8_copy_135 rfl (lv_at hl 1 rfl) ?_
                              refine va_iald hx hb hK hP 4 0 rfl rfl (zf_in (by omega) (by omega)) dX8_copy_136 ?_
                              refine lv_topi (fun x_100 ex_100 => ?_)
                              have bx_100 : 0 ≤ x_100.toInt ∧ x_100.toInt ≤ 160 := by rw [ex_100]; exact hp_gsi _
                              refine lv_iload hx hb dX8_copy_137 (lv_at hl 5 rfl) ?_
                              refine lv_isub hx hb dX8_copy_139 ?_
                              refine lv_topi (fun x_101 ex_101 => ?_)
                              have rbx_101 := zf_rng n
                              have qx_101 : x_101.toInt = x_100.toInt - n.toInt := by rw [ex_101]; exact zf_sub rfl rfl (by omega) (by omega)
                              refine lv_icmp_gt (tgt := 157) hx hb dX8_copy_140 (by decide) (fun c_102 => ?_) (fun c_102 => ?_)
                              · have fc_102 : x_101.toInt < i.toInt := zf_lt c_102 rfl rfl
                                refine lv_aload_n hx hb dX8_copy_157 rfl (lv_at hl 0 rfl) ?_
                                refine lv_bipush (v := (-5)) hx hb dX8_copy_158 (by decide) ?_
                                skip
                                refine zw_V (As := [.int (-5)]) (rest := []) (wr := [(mhe, .inl (cI, 8, .inl ghe)), (mso, .inl (cI, 8, .inl gso)), (msi, .inl (cI, 8, .inl gsi)), (mce, .inl (cJ, 1280, .inr (.inl gce))), (mca, .inl (cJ, 160, .inr (.inl gca)))]) ⟨hx, hb, hml, hown, hts⟩ (c_M_no_5 l D cI cJ cZ cP cS po m0 mrf mki mpa mta mla msl mco mhe mso msi msh mce mca mwo mnu mte mwa mke mma mth mtr (npu) (nte) (nat_) (nde) (nto) (nse) (nhu) (nga) (nsd) (nfa) (nba) (npl) (nen) (nnu) (nwr) (nra) (nik) grf hy0 hy1 hy2 hy3 hy4 hy5 hy6 hy7 hy8 hy9 hy10 hy11 hy12 hy13 H.size) (cwV 1 hts gX8_copy_X8_no rfl rfl rfl ⟨rfl, dh_X8_no⟩ ⟨Nat.le_of_ble_eq_true rfl, Nat.le_of_ble_eq_true rfl⟩) hK hN (hZ.kept hS) hP hD hS hA [0, 1] [2, 3, 4, 5, 6] rfl rfl (by decide) (by decide) (by decide) (va_recv (q := (RX8, TX8, 38)) hK hP (ci := 8) (q0 := 0) rfl rfl) rfl hl.1 rfl (Nat.le_of_ble_eq_true rfl) dX8_copy_160 ⟨Nat.le_of_ble_eq_true rfl, Nat.le_of_ble_eq_true rfl⟩ (fun r_103 u_104 H locs hr_103 hP hD hS => ?_)
                                obtain ⟨q_105, rfl⟩ : ∃ z, z = u_104 := ⟨_, rfl⟩
                                have h9R := zRe (ws' := [(mhe, .inl (cI, 8, .inl ghe)), (mso, .inl (cI, 8, .inl gso)), (msi, .inl (cI, 8, .inl gsi)), (mce, .inl (cJ, 1280, .inr (.inl gce))), (mca, .inl (cJ, 160, .inr (.inl gca))), (zMO m0 npu nte nat_ nde nto nse nhu nga nsd nfa mrf mki mpa mta mla msl mco mhe mso msi msh mce mca mwo mnu mte nba npl nen nnu nwr mwa mke mma mth mtr nra nik), (mrf, .inl (cI, 8, .inl q_105))]) hP hD rfl
                                clear hP hD
                                obtain ⟨hP, hD⟩ := h9R
                                obtain rfl := hr_103
                                exact W.iret (v := (-5)) hx hb hr (fun t ht hW => ⟨⟨(-5), (q_105, gce, gca), rfl, ⟨(show ((-5) : Int32).toInt = zCopR s_.toInt q_.toInt (zH2 (ghe s_.toNatClampNeg).toInt (gso s_.toNatClampNeg).toInt) (zH2 (ghe q_.toNatClampNeg).toInt (gso q_.toNatClampNeg).toInt) (gsi s_.toNatClampNeg).toInt (gsi q_.toNatClampNeg).toInt i.toInt j.toInt n.toInt from by (have k9 : ((-5) : Int32).toInt = -5 := (by decide); have gq1 := hp_gso s_.toNatClampNeg; have gq2 := hp_gso q_.toNatClampNeg; (try rw [← ex_58]); (try rw [← ex_63]); (try rw [← ex_84]); (try rw [← ex_85]); (try rw [← ex_100]); unfold zCopR zH2; (repeat (first | rw [if_pos (by omega)] | rw [if_neg (by omega)])) <;> omega)), (show (((-5) : Int32).toInt = 1 → ∀ m : Nat, gce m = (if 160 * q_.toInt + j.toInt ≤ (m : Int) ∧ (m : Int) < 160 * q_.toInt + j.toInt + n.toInt then gce (160 * s_.toInt + i.toInt + ((m : Int) - (160 * q_.toInt + j.toInt))).toNat else gce m)) from by (have k9 : ((-5) : Int32).toInt = -5 := (by decide); intro h; exfalso; omega)), (show (((-5) : Int32).toInt ≠ 1 → gce = gce) from by (have k9 : ((-5) : Int32).toInt = -5 := (by decide); intro h; exact rfl)), trivial⟩, zRet ht hP hD [5, 6, 0, 1, 2, 3, 4] (by decide) rfl⟩, hS.F ht⟩) hS.2.2 dX8_copy_163
                              · have fc_102 : i.toInt ≤ x_101.toInt := zf_nlt c_102 rfl rfl
                                refine lv_iload hx hb dX8_copy_143 (lv_at hl 4 rfl) ?_
                                refine lv_aload_n hx hb dX8_copy_145 rfl (lv_at hl 0 rfl) ?_
                                refine va_get (D := D) (ci := 8) (v := .ref msi) (C := RX8) (T := TX8) (N := 38) hx hb hts hi_X8_copy_8 hown hK hP 0 rfl rfl 19 (by decide) (hts (.fieldLink RX8 53 "TheLiningsInItModel" "size" "[I") (List.mem_of_getElem? (i := 3) rfl)) (fun _ h9 => h9) rfl dX8_copy_146 ?_
                                refine lv_iload_n hx hb dX8_copy_149 rfl (lv_at hl 2 rfl) ?_
                                refine va_iald hx hb hK hP 4 0 rfl rfl (zf_in (by omega) (by omega)) dX8_copy_150 ?_
                                refine lv_topi (fun x_106 ex_106 => ?_)
                                have bx_106 : 0 ≤ x_106.toInt ∧ x_106.toInt ≤ 160 := by rw [ex_106]; exact hp_gsi _
                                refine lv_iload hx hb dX8_copy_151 (lv_at hl 5 rfl) ?_
                                refine lv_isub hx hb dX8_copy_153 ?_
                                refine lv_topi (fun x_107 ex_107 => ?_)
                                have rbx_107 := zf_rng n
                                have qx_107 : x_107.toInt = x_106.toInt - n.toInt := by rw [ex_107]; exact zf_sub rfl rfl (by omega) (by omega)
                                refine lv_icmp_le (tgt := 164) hx hb dX8_copy_154 (by decide) (fun c_108 => ?_) (fun c_108 => ?_)
                                · have fc_108 : j.toInt ≤ x_107.toInt := zf_le c_108 rfl rfl
                                  exact hcut164 H locs ls  hP hD hS (lv_sub hl [0, 1, 2, 3, 4, 5] rfl) (by first | omega | assumption | (simp; done) | (simp; omega)) (by have gq1 := hp_gso s_.toNatClampNeg; have gq2 := hp_gso q_.toNatClampNeg; (try rw [← ex_58]); (try rw [← ex_63]); (try rw [← ex_84]); (try rw [← ex_85]); (try rw [← ex_100]); (try rw [← ex_106]); unfold zCopR zH2; (repeat (first | rw [if_pos (by omega)] | rw [if_neg (by omega)])) <;> omega)
                                · have fc_108 : x_107.toInt < j.toInt := zf_nle c_108 rfl rfl
                                  refine lv_aload_n hx hb dX8_copy_157 rfl (lv_at hl 0 rfl) ?_
                                  refine lv_bipush (v := (-5)) hx hb dX8_copy_158 (by decide) ?_
                                  skip
                                  refine zw_V (As := [.int (-5)]) (rest := []) (wr := [(mhe, .inl (cI, 8, .inl ghe)), (mso, .inl (cI, 8, .inl gso)), (msi, .inl (cI, 8, .inl gsi)), (mce, .inl (cJ, 1280, .inr (.inl gce))), (mca, .inl (cJ, 160, .inr (.inl gca)))]) ⟨hx, hb, hml, hown, hts⟩ (c_M_no_5 l D cI cJ cZ cP cS po m0 mrf mki mpa mta mla msl mco mhe mso msi msh mce mca mwo mnu mte mwa mke mma mth mtr (npu) (nte) (nat_) (nde) (nto) (nse) (nhu) (nga) (nsd) (nfa) (nba) (npl) (nen) (nnu) (nwr) (nra) (nik) grf hy0 hy1 hy2 hy3 hy4 hy5 hy6 hy7 hy8 hy9 hy10 hy11 hy12 hy13 H.size) (cwV 1 hts gX8_copy_X8_no rfl rfl rfl ⟨rfl, dh_X8_no⟩ ⟨Nat.le_of_ble_eq_true rfl, Nat.le_of_ble_eq_true rfl⟩) hK hN (hZ.kept hS) hP hD hS hA [0, 1] [2, 3, 4, 5, 6] rfl rfl (by decide) (by decide) (by decide) (va_recv (q := (RX8, TX8, 38)) hK hP (ci := 8) (q0 := 0) rfl rfl) rfl hl.1 rfl (Nat.le_of_ble_eq_true rfl) dX8_copy_160 ⟨Nat.le_of_ble_eq_true rfl, Nat.le_of_ble_eq_true rfl⟩ (fun r_109 u_110 H locs hr_109 hP hD hS => ?_)
                                  obtain ⟨q_111, rfl⟩ : ∃ z, z = u_110 := ⟨_, rfl⟩
                                  have h9R := zRe (ws' := [(mhe, .inl (cI, 8, .inl ghe)), (mso, .inl (cI, 8, .inl gso)), (msi, .inl (cI, 8, .inl gsi)), (mce, .inl (cJ, 1280, .inr (.inl gce))), (mca, .inl (cJ, 160, .inr (.inl gca))), (zMO m0 npu nte nat_ nde nto nse nhu nga nsd nfa mrf mki mpa mta mla msl mco mhe mso msi msh mce mca mwo mnu mte nba npl nen nnu nwr mwa mke mma mth mtr nra nik), (mrf, .inl (cI, 8, .inl q_111))]) hP hD rfl
                                  clear hP hD
                                  obtain ⟨hP, hD⟩ := h9R
                                  obtain rfl := hr_109
                                  exact W.iret (v := (-5)) hx hb hr (fun t ht hW => ⟨⟨(-5), (q_111, gce, gca), rfl, ⟨(show ((-5) : Int32).toInt = zCopR s_.toInt q_.toInt (zH2 (ghe s_.toNatClampNeg).toInt (gso s_.toNatClampNeg).toInt) (zH2 (ghe q_.toNatClampNeg).toInt (gso q_.toNatClampNeg).toInt) (gsi s_.toNatClampNeg).toInt (gsi q_.toNatClampNeg).toInt i.toInt j.toInt n.toInt from by (have k9 : ((-5) : Int32).toInt = -5 := (by decide); have gq1 := hp_gso s_.toNatClampNeg; have gq2 := hp_gso q_.toNatClampNeg; (try rw [← ex_58]); (try rw [← ex_63]); (try rw [← ex_84]); (try rw [← ex_85]); (try rw [← ex_100]); (try rw [← ex_106]); unfold zCopR zH2; (repeat (first | rw [if_pos (by omega)] | rw [if_neg (by omega)])) <;> omega)), (show (((-5) : Int32).toInt = 1 → ∀ m : Nat, gce m = (if 160 * q_.toInt + j.toInt ≤ (m : Int) ∧ (m : Int) < 160 * q_.toInt + j.toInt + n.toInt then gce (160 * s_.toInt + i.toInt + ((m : Int) - (160 * q_.toInt + j.toInt))).toNat else gce m)) from by (have k9 : ((-5) : Int32).toInt = -5 := (by decide); intro h; exfalso; omega)), (show (((-5) : Int32).toInt ≠ 1 → gce = gce) from by (have k9 : ((-5) : Int32).toInt = -5 := (by decide); intro h; exact rfl)), trivial⟩, zRet ht hP hD [5, 6, 0, 1, 2, 3, 4] (by decide) rfl⟩, hS.F ht⟩) hS.2.2 dX8_copy_163
                        · have fc_91 : n.toInt < 0 := zf_nle c_91 (by decide) rfl
                          refine lv_aload_n hx hb dX8_copy_114 rfl (lv_at hl 0 rfl) ?_
                          refine lv_bipush (v := (-4)) hx hb dX8_copy_115 (by decide) ?_
                          skip
                          refine zw_V (As := [.int (-4)]) (rest := []) (wr := [(mhe, .inl (cI, 8, .inl ghe)), (mso, .inl (cI, 8, .inl gso)), (msi, .inl (cI, 8, .inl gsi)), (mce, .inl (cJ, 1280, .inr (.inl gce))), (mca, .inl (cJ, 160, .inr (.inl gca)))]) ⟨hx, hb, hml, hown, hts⟩ (c_M_no_4 l D cI cJ cZ cP cS po m0 mrf mki mpa mta mla msl mco mhe mso msi msh mce mca mwo mnu mte mwa mke mma mth mtr (npu) (nte) (nat_) (nde) (nto) (nse) (nhu) (nga) (nsd) (nfa) (nba) (npl) (nen) (nnu) (nwr) (nra) (nik) grf hy0 hy1 hy2 hy3 hy4 hy5 hy6 hy7 hy8 hy9 hy10 hy11 hy12 hy13 H.size) (cwV 1 hts gX8_copy_X8_no rfl rfl rfl ⟨rfl, dh_X8_no⟩ ⟨Nat.le_of_ble_eq_true rfl, Nat.le_of_ble_eq_true rfl⟩) hK hN (hZ.kept hS) hP hD hS hA [0, 1] [2, 3, 4, 5, 6] rfl rfl (by decide) (by decide) (by decide) (va_recv (q := (RX8, TX8, 38)) hK hP (ci := 8) (q0 := 0) rfl rfl) rfl hl.1 rfl (Nat.le_of_ble_eq_true rfl) dX8_copy_117 ⟨Nat.le_of_ble_eq_true rfl, Nat.le_of_ble_eq_true rfl⟩ (fun r_112 u_113 H locs hr_112 hP hD hS => ?_)
                          obtain ⟨q_114, rfl⟩ : ∃ z, z = u_113 := ⟨_, rfl⟩
                          have h9R := zRe (ws' := [(mhe, .inl (cI, 8, .inl ghe)), (mso, .inl (cI, 8, .inl gso)), (msi, .inl (cI, 8, .inl gsi)), (mce, .inl (cJ, 1280, .inr (.inl gce))), (mca, .inl (cJ, 160, .inr (.inl gca))), (zMO m0 npu nte nat_ nde nto nse nhu nga nsd nfa mrf mki mpa mta mla msl mco mhe mso msi msh mce mca mwo mnu mte nba npl nen nnu nwr mwa mke mma mth mtr nra nik), (mrf, .inl (cI, 8, .inl q_114))]) hP hD rfl
                          clear hP hD
                          obtain ⟨hP, hD⟩ := h9R
                          obtain rfl := hr_112
                          exact W.iret (v := (-4)) hx hb hr (fun t ht hW => ⟨⟨(-4), (q_114, gce, gca), rfl, ⟨(show ((-4) : Int32).toInt = zCopR s_.toInt q_.toInt (zH2 (ghe s_.toNatClampNeg).toInt (gso s_.toNatClampNeg).toInt) (zH2 (ghe q_.toNatClampNeg).toInt (gso q_.toNatClampNeg).toInt) (gsi s_.toNatClampNeg).toInt (gsi q_.toNatClampNeg).toInt i.toInt j.toInt n.toInt from by (have k9 : ((-4) : Int32).toInt = -4 := (by decide); have gq1 := hp_gso s_.toNatClampNeg; have gq2 := hp_gso q_.toNatClampNeg; (try rw [← ex_58]); (try rw [← ex_63]); (try rw [← ex_84]); (try rw [← ex_85]); unfold zCopR zH2; (repeat (first | rw [if_pos (by omega)] | rw [if_neg (by omega)])) <;> omega)), (show (((-4) : Int32).toInt = 1 → ∀ m : Nat, gce m = (if 160 * q_.toInt + j.toInt ≤ (m : Int) ∧ (m : Int) < 160 * q_.toInt + j.toInt + n.toInt then gce (160 * s_.toInt + i.toInt + ((m : Int) - (160 * q_.toInt + j.toInt))).toNat else gce m)) from by (have k9 : ((-4) : Int32).toInt = -4 := (by decide); intro h; exfalso; omega)), (show (((-4) : Int32).toInt ≠ 1 → gce = gce) from by (have k9 : ((-4) : Int32).toInt = -4 := (by decide); intro h; exact rfl)), trivial⟩, zRet ht hP hD [5, 6, 0, 1, 2, 3, 4] (by decide) rfl⟩, hS.F ht⟩) hS.2.2 dX8_copy_120
                      · exfalso; have fc_90 : x_63.toInt = 0 := zf_eq c_90 rfl (by decide); omega
                  · have fc_86 : x_84.toInt ≠ x_85.toInt := zf_ne c_86 rfl rfl
                    refine lv_aload_n hx hb dX8_copy_77 rfl (lv_at hl 0 rfl) ?_
                    refine lv_bipush (v := (-2)) hx hb dX8_copy_78 (by decide) ?_
                    skip
                    refine zw_V (As := [.int (-2)]) (rest := []) (wr := [(mhe, .inl (cI, 8, .inl ghe)), (mso, .inl (cI, 8, .inl gso)), (msi, .inl (cI, 8, .inl gsi)), (mce, .inl (cJ, 1280, .inr (.inl gce))), (mca, .inl (cJ, 160, .inr (.inl gca)))]) ⟨hx, hb, hml, hown, hts⟩ (c_M_no_2 l D cI cJ cZ cP cS po m0 mrf mki mpa mta mla msl mco mhe mso msi msh mce mca mwo mnu mte mwa mke mma mth mtr (npu) (nte) (nat_) (nde) (nto) (nse) (nhu) (nga) (nsd) (nfa) (nba) (npl) (nen) (nnu) (nwr) (nra) (nik) grf hy0 hy1 hy2 hy3 hy4 hy5 hy6 hy7 hy8 hy9 hy10 hy11 hy12 hy13 H.size) (cwV 1 hts gX8_copy_X8_no rfl rfl rfl ⟨rfl, dh_X8_no⟩ ⟨Nat.le_of_ble_eq_true rfl, Nat.le_of_ble_eq_true rfl⟩) hK hN (hZ.kept hS) hP hD hS hA [0, 1] [2, 3, 4, 5, 6] rfl rfl (by decide) (by decide) (by decide) (va_recv (q := (RX8, TX8, 38)) hK hP (ci := 8) (q0 := 0) rfl rfl) rfl hl.1 rfl (Nat.le_of_ble_eq_true rfl) dX8_copy_80 ⟨Nat.le_of_ble_eq_true rfl, Nat.le_of_ble_eq_true rfl⟩ (fun r_115 u_116 H locs hr_115 hP hD hS => ?_)
                    obtain ⟨q_117, rfl⟩ : ∃ z, z = u_116 := ⟨_, rfl⟩
                    have h9R := zRe (ws' := [(mhe, .inl (cI, 8, .inl ghe)), (mso, .inl (cI, 8, .inl gso)), (msi, .inl (cI, 8, .inl gsi)), (mce, .inl (cJ, 1280, .inr (.inl gce))), (mca, .inl (cJ, 160, .inr (.inl gca))), (zMO m0 npu nte nat_ nde nto nse nhu nga nsd nfa mrf mki mpa mta mla msl mco mhe mso msi msh mce mca mwo mnu mte nba npl nen nnu nwr mwa mke mma mth mtr nra nik), (mrf, .inl (cI, 8, .inl q_117))]) hP hD rfl
                    clear hP hD
                    obtain ⟨hP, hD⟩ := h9R
                    obtain rfl := hr_115
                    exact W.iret (v := (-2)) hx hb hr (fun t ht hW => ⟨⟨(-2), (q_117, gce, gca), rfl, ⟨(show ((-2) : Int32).toInt = zCopR s_.toInt q_.toInt (zH2 (ghe s_.toNatClampNeg).toInt (gso s_.toNatClampNeg).toInt) (zH2 (ghe q_.toNatClampNeg).toInt (gso q_.toNatClampNeg).toInt) (gsi s_.toNatClampNeg).toInt (gsi q_.toNatClampNeg).toInt i.toInt j.toInt n.toInt from by (have k9 : ((-2) : Int32).toInt = -2 := (by decide); have gq1 := hp_gso s_.toNatClampNeg; have gq2 := hp_gso q_.toNatClampNeg; (try rw [← ex_58]); (try rw [← ex_63]); (try rw [← ex_84]); (try rw [← ex_85]); unfold zCopR zH2; (repeat (first | rw [if_pos (by omega)] | rw [if_neg (by omega)])) <;> omega)), (show (((-2) : Int32).toInt = 1 → ∀ m : Nat, gce m = (if 160 * q_.toInt + j.toInt ≤ (m : Int) ∧ (m : Int) < 160 * q_.toInt + j.toInt + n.toInt then gce (160 * s_.toInt + i.toInt + ((m : Int) - (160 * q_.toInt + j.toInt))).toNat else gce m)) from by (have k9 : ((-2) : Int32).toInt = -2 := (by decide); intro h; exfalso; omega)), (show (((-2) : Int32).toInt ≠ 1 → gce = gce) from by (have k9 : ((-2) : Int32).toInt = -2 := (by decide); intro h; exact rfl)), trivial⟩, zRet ht hP hD [5, 6, 0, 1, 2, 3, 4] (by decide) rfl⟩, hS.F ht⟩) hS.2.2 dX8_copy_83
        · exact absurd c_57 (by decide)
set_option maxHeartbeats 4000000 in
set_option maxRecDepth 100000 in
theorem c_F_M_element (l : Launch) (D : va_G) (cI cJ cZ cP cS : ClassId) (po : zPool) (m0 mrf mki mpa mta mla msl mco mhe mso msi msh mce mca mwo mnu mte mwa mke mma mth mtr : Nat) (npu nte nat_ nde nto nse nhu nga nsd nfa nba npl nen nnu nwr nra nik : Int32) (ghe gsi : Nat → Int32) (gce : Nat → Int64) (s_ i : Int32) (hy0 : 0 ≤ npu.toInt) (hy1 : npu.toInt ≤ 8) (hy2 : 4 ≤ nte.toInt) (hy3 : nte.toInt ≤ 40) (hy4 : 0 ≤ nat_.toInt) (hy5 : nat_.toInt ≤ 40) (hy6 : 0 ≤ nde.toInt) (hy7 : nde.toInt ≤ 24) (hy8 : 0 ≤ nhu.toInt) (hy9 : nhu.toInt ≤ 9) (hy10 : 0 ≤ nra.toInt) (hy11 : nra.toInt ≤ 2000) (hy12 : 0 ≤ nik.toInt) (hy13 : nik.toInt ≤ 1) (hp_ghe : zRg ghe (0) 2) (hp_gsi : zRg gsi (0) 160) (hpz : Nat) : Met l yX8_element wsX8_element ({ frames := 1, cells := 0, slots := 0, locals := 21 }) (va_Pc [.ref m0, .int s_, .int i] (zW D (zKT cI cJ cZ cP cS) po [(zMO m0 npu nte nat_ nde nto nse nhu nga nsd nfa mrf mki mpa mta mla msl mco mhe mso msi msh mce mca mwo mnu mte nba npl nen nnu nwr mwa mke mma mth mtr nra nik), (mhe, .inl (cI, 8, .inl ghe)), (msi, .inl (cI, 8, .inl gsi)), (mce, .inl (cJ, 1280, .inr (.inl gce)))] hpz)) (va_Ql (fun (r : Int64) (_ : Unit) => (r = (if (0 ≤ s_.toInt ∧ s_.toInt ≤ 7) ∧ (ghe s_.toNatClampNeg).toInt = 1 ∧ 0 ≤ i.toInt ∧ i.toInt < (gsi s_.toNatClampNeg).toInt then gce (160 * s_.toInt + i.toInt).toNat else 0)) ∧ (True)) (zB D [(zMO m0 npu nte nat_ nde nto nse nhu nga nsd nfa mrf mki mpa mta mla msl mco mhe mso msi msh mce mca mwo mnu mte nba npl nen nnu nwr mwa mke mma mth mtr nra nik), (mhe, .inl (cI, 8, .inl ghe)), (msi, .inl (cI, 8, .inl gsi)), (mce, .inl (cJ, 1280, .inr (.inl gce)))] hpz (fun (_ : Unit) => [(zMO m0 npu nte nat_ nde nto nse nhu nga nsd nfa mrf mki mpa mta mla msl mco mhe mso msi msh mce mca mwo mnu mte nba npl nen nnu nwr mwa mke mma mth mtr nra nik), (mhe, .inl (cI, 8, .inl ghe)), (msi, .inl (cI, 8, .inl gsi)), (mce, .inl (cJ, 1280, .inr (.inl gce)))])) (va_A [(zMO m0 npu nte nat_ nde nto nse nhu nga nsd nfa mrf mki mpa mta mla msl mco mhe mso msi msh mce mca mwo mnu mte nba npl nen nnu nwr mwa mke mma mth mtr nra nik), (mhe, .inl (cI, 8, .inl ghe)), (msi, .inl (cI, 8, .inl gsi)), (mce, .inl (cJ, 1280, .inr (.inl gce)))] hpz)) 0 0 (va_A [(zMO m0 npu nte nat_ nde nto nse nhu nga nsd nfa mrf mki mpa mta mla msl mco mhe mso msi msh mce mca mwo mnu mte nba npl nen nnu nwr mwa mke mma mth mtr nra nik), (mhe, .inl (cI, 8, .inl ghe)), (msi, .inl (cI, 8, .inl gsi)), (mce, .inl (cJ, 1280, .inr (.inl gce)))] hpz) := by
  refine Met.ofW (cc := cX8_element) (maxL := 3) (ret := (some .long)) (by decide) rfl ?_
  intro p e s m args below meth c s₁ B hml hv
  obtain ⟨rfl, hsz, hP, hK, hD0, hN, hZ⟩ := hv
  have hx := B.exec
  have hb := B.bytes
  have hr := B.returns
  have hts := atoms_spec (ws := wsX8_element) B.pre
  have hown : s.vm.findClass RX8 = some m.cls := findClass_of_methodNamed B.named
  have hlocks := B.notSynchronized
  subst hsz
  have hD := hD0.self (sz := s.heap.size)
  have hA := zA_of hD
  have hl := lv_entry ([.ref m0, .int s_, .int i]) (n := 3) (Nat.le_of_ble_eq_true rfl)
  rw [lg_entry_eq]
  generalize (lg_sl ([.ref m0, .int s_, .int i]) ++ List.replicate (3 - (lg_sl ([.ref m0, .int s_, .int i])).length) Slot.unset).toArray = ls at hl ⊢
  replace hl : lv_has ls 3 [(0, .ref m0), (1, .int s_), (2, .int i)] := hl
  refine zw_begin hP hD (fun H locs hP1 hS => ?_)
  clear hP
  have hP := hP1
  clear hP1
  refine lv_aload_n hx hb dX8_element_0 rfl (lv_at hl 0 rfl) ?_
  refine lv_iload_n hx hb dX8_element_1 rfl (lv_at hl 1 rfl) ?_
  refine zc_V (As := [.int s_]) (rest := []) ⟨hx, hb, hml, hown, hts⟩ (c_M_isShelf l D cI cJ cZ cP cS po m0 mrf mki mpa mta mla msl mco mhe mso msi msh mce mca mwo mnu mte mwa mke mma mth mtr (npu) (nte) (nat_) (nde) (nto) (nse) (nhu) (nga) (nsd) (nfa) (nba) (npl) (nen) (nnu) (nwr) (nra) (nik) (s_) hy0 hy1 hy2 hy3 hy4 hy5 hy6 hy7 hy8 hy9 hy10 hy11 hy12 hy13) (cwV 1 hts gX8_element_X8_isShelf rfl rfl rfl ⟨rfl, dh_X8_isShelf⟩ ⟨Nat.le_of_ble_eq_true rfl, Nat.le_of_ble_eq_true rfl⟩) hK hN (hZ.kept hS) hP (hP.sub [0] rfl) (va_recv (q := (RX8, TX8, 38)) hK hP (ci := 8) (q0 := 0) rfl rfl) rfl hl.1 rfl (Nat.le_of_ble_eq_true rfl) dX8_element_2 ⟨Nat.le_of_ble_eq_true rfl, Nat.le_of_ble_eq_true rfl⟩ (fun r_1 hr_1 => ?_)
  rcases hr_1 with ⟨rfl, g_2⟩ | ⟨rfl, g_3, g_4⟩ | ⟨rfl, g_5, g_6⟩
  · refine lv_if_eq (tgt := 47) hx hb dX8_element_5 (by decide) (fun c_7 => ?_) (fun c_7 => ?_)
    · refine lv_lconst (v := 0) hx hb dX8_element_47 (by decide) ?_
      exact W.lret (v := 0) hx hb hr (fun t ht hW => ⟨⟨0, (), rfl, ⟨(show (0 : Int64) = (if (0 ≤ s_.toInt ∧ s_.toInt ≤ 7) ∧ (ghe s_.toNatClampNeg).toInt = 1 ∧ 0 ≤ i.toInt ∧ i.toInt < (gsi s_.toNatClampNeg).toInt then gce (160 * s_.toInt + i.toInt).toNat else 0) from by (rw [if_neg (by omega)])), trivial⟩, zRet ht hP hD [0, 1, 2, 3] (by decide) rfl⟩, hS.F ht⟩) hS.2.2 dX8_element_48
    · exact absurd c_7 (by decide)
  · refine lv_if_eq (tgt := 47) hx hb dX8_element_5 (by decide) (fun c_8 => ?_) (fun c_8 => ?_)
    · refine lv_lconst (v := 0) hx hb dX8_element_47 (by decide) ?_
      exact W.lret (v := 0) hx hb hr (fun t ht hW => ⟨⟨0, (), rfl, ⟨(show (0 : Int64) = (if (0 ≤ s_.toInt ∧ s_.toInt ≤ 7) ∧ (ghe s_.toNatClampNeg).toInt = 1 ∧ 0 ≤ i.toInt ∧ i.toInt < (gsi s_.toNatClampNeg).toInt then gce (160 * s_.toInt + i.toInt).toNat else 0) from by (rw [if_neg (by omega)])), trivial⟩, zRet ht hP hD [0, 1, 2, 3] (by decide) rfl⟩, hS.F ht⟩) hS.2.2 dX8_element_48
    · exact absurd c_8 (by decide)
  · refine lv_if_eq (tgt := 47) hx hb dX8_element_5 (by decide) (fun c_9 => ?_) (fun c_9 => ?_)
    · exact absurd c_9 (by decide)
    · refine lv_aload_n hx hb dX8_element_8 rfl (lv_at hl 0 rfl) ?_
      refine va_get (D := D) (ci := 8) (v := .ref mhe) (C := RX8) (T := TX8) (N := 38) hx hb hts hi_X8_element_8 hown hK hP 0 rfl rfl 17 (by decide) (hts (.fieldLink RX8 47 "TheLiningsInItModel" "held" "[I") (List.mem_of_getElem? (i := 1) rfl)) (fun _ h9 => h9) rfl dX8_element_9 ?_
      refine lv_iload_n hx hb dX8_element_12 rfl (lv_at hl 1 rfl) ?_
      refine va_iald hx hb hK hP 1 0 rfl rfl (zf_in (by omega) (by omega)) dX8_element_13 ?_
      refine lv_topi (fun x_10 ex_10 => ?_)
      have bx_10 : 0 ≤ x_10.toInt ∧ x_10.toInt ≤ 2 := by rw [ex_10]; exact hp_ghe _
      refine lv_iconst (v := 1) hx hb dX8_element_14 (by decide) ?_
      refine lv_icmp_ne (tgt := 47) hx hb dX8_element_15 (by decide) (fun c_11 => ?_) (fun c_11 => ?_)
      · have fc_11 : x_10.toInt ≠ 1 := zf_ne c_11 rfl (by decide)
        refine lv_lconst (v := 0) hx hb dX8_element_47 (by decide) ?_
        exact W.lret (v := 0) hx hb hr (fun t ht hW => ⟨⟨0, (), rfl, ⟨(show (0 : Int64) = (if (0 ≤ s_.toInt ∧ s_.toInt ≤ 7) ∧ (ghe s_.toNatClampNeg).toInt = 1 ∧ 0 ≤ i.toInt ∧ i.toInt < (gsi s_.toNatClampNeg).toInt then gce (160 * s_.toInt + i.toInt).toNat else 0) from by ((try rw [← ex_10]); rw [if_neg (by omega)])), trivial⟩, zRet ht hP hD [0, 1, 2, 3] (by decide) rfl⟩, hS.F ht⟩) hS.2.2 dX8_element_48
      · have fc_11 : x_10.toInt = 1 := zf_eq c_11 rfl (by decide)
        refine lv_iload_n hx hb dX8_element_18 rfl (lv_at hl 2 rfl) ?_
        refine lv_if_lt (tgt := 47) hx hb dX8_element_19 (by decide) (fun c_12 => ?_) (fun c_12 => ?_)
        · have fc_12 : i.toInt < 0 := zf_lt c_12 rfl (by decide)
          refine lv_lconst (v := 0) hx hb dX8_element_47 (by decide) ?_
          exact W.lret (v := 0) hx hb hr (fun t ht hW => ⟨⟨0, (), rfl, ⟨(show (0 : Int64) = (if (0 ≤ s_.toInt ∧ s_.toInt ≤ 7) ∧ (ghe s_.toNatClampNeg).toInt = 1 ∧ 0 ≤ i.toInt ∧ i.toInt < (gsi s_.toNatClampNeg).toInt then gce (160 * s_.toInt + i.toInt).toNat else 0) from by ((try rw [← ex_10]); rw [if_neg (by omega)])), trivial⟩, zRet ht hP hD [0, 1, 2, 3] (by decide) rfl⟩, hS.F ht⟩) hS.2.2 dX8_element_48
        · have fc_12 : 0 ≤ i.toInt := zf_nlt c_12 rfl (by decide)
          refine lv_iload_n hx hb dX8_element_22 rfl (lv_at hl 2 rfl) ?_
          refine lv_aload_n hx hb dX8_element_23 rfl (lv_at hl 0 rfl) ?_
          refine va_get (D := D) (ci := 8) (v := .ref msi) (C := RX8) (T := TX8) (N := 38) hx hb hts hi_X8_element_8 hown hK hP 0 rfl rfl 19 (by decide) (hts (.fieldLink RX8 53 "TheLiningsInItModel" "size" "[I") (List.mem_of_getElem? (i := 2) rfl)) (fun _ h9 => h9) rfl dX8_element_24 ?_
          refine lv_iload_n hx hb dX8_element_27 rfl (lv_at hl 1 rfl) ?_
          refine va_iald hx hb hK hP 2 0 rfl rfl (zf_in (by omega) (by omega)) dX8_element_28 ?_
          refine lv_topi (fun x_13 ex_13 => ?_)
          have bx_13 : 0 ≤ x_13.toInt ∧ x_13.toInt ≤ 160 := by rw [ex_13]; exact hp_gsi _
          refine lv_icmp_ge (tgt := 47) hx hb dX8_element_29 (by decide) (fun c_14 => ?_) (fun c_14 => ?_)
          · have fc_14 : x_13.toInt ≤ i.toInt := zf_le c_14 rfl rfl
            refine lv_lconst (v := 0) hx hb dX8_element_47 (by decide) ?_
            exact W.lret (v := 0) hx hb hr (fun t ht hW => ⟨⟨0, (), rfl, ⟨(show (0 : Int64) = (if (0 ≤ s_.toInt ∧ s_.toInt ≤ 7) ∧ (ghe s_.toNatClampNeg).toInt = 1 ∧ 0 ≤ i.toInt ∧ i.toInt < (gsi s_.toNatClampNeg).toInt then gce (160 * s_.toInt + i.toInt).toNat else 0) from by ((try rw [← ex_10]); (try rw [← ex_13]); rw [if_neg (by omega)])), trivial⟩, zRet ht hP hD [0, 1, 2, 3] (by decide) rfl⟩, hS.F ht⟩) hS.2.2 dX8_element_48
          · have fc_14 : i.toInt < x_13.toInt := zf_nle c_14 rfl rfl
            refine lv_aload_n hx hb dX8_element_32 rfl (lv_at hl 0 rfl) ?_
            refine va_get (D := D) (ci := 8) (v := .ref mce) (C := RX8) (T := TX8) (N := 38) hx hb hts hi_X8_element_8 hown hK hP 0 rfl rfl 21 (by decide) (hts (.fieldLink RX8 59 "TheLiningsInItModel" "cells" "[J") (List.mem_of_getElem? (i := 3) rfl)) (fun _ h9 => h9) rfl dX8_element_33 ?_
            refine lv_sipush (v := 160) hx hb dX8_element_36 (by decide) ?_
            refine lv_iload_n hx hb dX8_element_39 rfl (lv_at hl 1 rfl) ?_
            refine lv_imul hx hb dX8_element_40 ?_
            refine lv_topi (fun x_15 ex_15 => ?_)
            have qx_15 : x_15.toInt = 160 * s_.toInt := by rw [ex_15]; exact zf_mul (by decide) rfl (by omega) (by omega)
            refine lv_iload_n hx hb dX8_element_41 rfl (lv_at hl 2 rfl) ?_
            refine lv_iadd hx hb dX8_element_42 ?_
            refine lv_topi (fun x_16 ex_16 => ?_)
            have qx_16 : x_16.toInt = x_15.toInt + i.toInt := by rw [ex_16]; exact zf_add rfl rfl (by omega) (by omega)
            refine va_lald hx hb hK hP 3 1 rfl rfl (zf_in (by omega) (by omega)) dX8_element_43 ?_
            refine lv_topl (fun x_17 ex_17 => ?_)
            refine lv_goto (tgt := 48) hx hb dX8_element_44 (by decide) ?_
            exact W.lret (v := x_17) hx hb hr (fun t ht hW => ⟨⟨x_17, (), rfl, ⟨(show (x_17 : Int64) = (if (0 ≤ s_.toInt ∧ s_.toInt ≤ 7) ∧ (ghe s_.toNatClampNeg).toInt = 1 ∧ 0 ≤ i.toInt ∧ i.toInt < (gsi s_.toNatClampNeg).toInt then gce (160 * s_.toInt + i.toInt).toNat else 0) from by ((try rw [← ex_10]); (try rw [← ex_13]); rw [if_pos (by omega), ex_17]; congr 1; (show x_16.toInt.toNat = _; congr 1; omega))), trivial⟩, zRet ht hP hD [0, 1, 2, 3] (by decide) rfl⟩, hS.F ht⟩) hS.2.2 dX8_element_48
set_option maxHeartbeats 4000000 in
set_option maxRecDepth 100000 in
theorem c_F_M_show (l : Launch) (D : va_G) (cI cJ cZ cP cS : ClassId) (po : zPool) (m0 mrf mki mpa mta mla msl mco mhe mso msi msh mce mca mwo mnu mte mwa mke mma mth mtr : Nat) (npu nte nat_ nde nto nse nhu nga nsd nfa nba npl nen nnu nwr nra nik : Int32) (grf ghe gsh : Nat → Int32) (s_ p_ : Int32) (hy0 : 0 ≤ npu.toInt) (hy1 : npu.toInt ≤ 8) (hy2 : 4 ≤ nte.toInt) (hy3 : nte.toInt ≤ 40) (hy4 : 0 ≤ nat_.toInt) (hy5 : nat_.toInt ≤ 40) (hy6 : 0 ≤ nde.toInt) (hy7 : nde.toInt ≤ 24) (hy8 : 0 ≤ nhu.toInt) (hy9 : nhu.toInt ≤ 9) (hy10 : 0 ≤ nra.toInt) (hy11 : nra.toInt ≤ 2000) (hy12 : 0 ≤ nik.toInt) (hy13 : nik.toInt ≤ 1) (hHS : zHS ghe gsh) (hp_ghe : zRg ghe (0) 2) (hp_gsh : zRg gsh (-1) 7) (hpz : Nat) : Met l yX8_show wsX8_show ({ frames := 1, cells := 0, slots := 0, locals := 21 }) (va_Pc [.ref m0, .int s_, .int p_] (zW D (zKT cI cJ cZ cP cS) po [(zMO m0 npu nte nat_ nde nto nse nhu nga nsd nfa mrf mki mpa mta mla msl mco mhe mso msi msh mce mca mwo mnu mte nba npl nen nnu nwr mwa mke mma mth mtr nra nik), (mrf, .inl (cI, 8, .inl grf)), (mhe, .inl (cI, 8, .inl ghe)), (msh, .inl (cI, 8, .inl gsh))] hpz)) (va_Qi (fun (r : Int32) (u : (Nat → Int32) × (Nat → Int32) × (Nat → Int32)) => zRg u.2.1 (0) 2 ∧ zRg u.2.2 (-1) 7 ∧ (zHS u.2.1 u.2.2) ∧ ((((s_.toInt < 0 ∨ 7 < s_.toInt) ∨ (p_.toInt ≠ -1 ∧ (p_.toInt < 0 ∨ npu.toInt ≤ p_.toInt))) ∧ r.toInt = -1 ∧ u.2.1 = ghe ∧ u.2.2 = gsh) ∨ ((0 ≤ s_.toInt ∧ s_.toInt ≤ 7) ∧ p_.toInt = -1 ∧ r.toInt = 0 ∧ u.2.1 = upd ghe s_.toNatClampNeg 0 ∧ u.2.2 = upd gsh s_.toNatClampNeg p_) ∨ ((0 ≤ s_.toInt ∧ s_.toInt ≤ 7) ∧ (0 ≤ p_.toInt ∧ p_.toInt < npu.toInt) ∧ r.toInt = 1 ∧ u.2.1 = upd ghe s_.toNatClampNeg 2 ∧ u.2.2 = upd gsh s_.toNatClampNeg p_)) ∧ (True)) (zB D [(zMO m0 npu nte nat_ nde nto nse nhu nga nsd nfa mrf mki mpa mta mla msl mco mhe mso msi msh mce mca mwo mnu mte nba npl nen nnu nwr mwa mke mma mth mtr nra nik), (mrf, .inl (cI, 8, .inl grf)), (mhe, .inl (cI, 8, .inl ghe)), (msh, .inl (cI, 8, .inl gsh))] hpz (fun (u : (Nat → Int32) × (Nat → Int32) × (Nat → Int32)) => [(zMO m0 npu nte nat_ nde nto nse nhu nga nsd nfa mrf mki mpa mta mla msl mco mhe mso msi msh mce mca mwo mnu mte nba npl nen nnu nwr mwa mke mma mth mtr nra nik), (mrf, .inl (cI, 8, .inl u.1)), (mhe, .inl (cI, 8, .inl u.2.1)), (msh, .inl (cI, 8, .inl u.2.2))])) (va_A [(zMO m0 npu nte nat_ nde nto nse nhu nga nsd nfa mrf mki mpa mta mla msl mco mhe mso msi msh mce mca mwo mnu mte nba npl nen nnu nwr mwa mke mma mth mtr nra nik), (mrf, .inl (cI, 8, .inl grf)), (mhe, .inl (cI, 8, .inl ghe)), (msh, .inl (cI, 8, .inl gsh))] hpz)) 0 0 (va_A [(zMO m0 npu nte nat_ nde nto nse nhu nga nsd nfa mrf mki mpa mta mla msl mco mhe mso msi msh mce mca mwo mnu mte nba npl nen nnu nwr mwa mke mma mth mtr nra nik), (mrf, .inl (cI, 8, .inl grf)), (mhe, .inl (cI, 8, .inl ghe)), (msh, .inl (cI, 8, .inl gsh))] hpz) := by
  refine Met.ofW (cc := cX8_show) (maxL := 3) (ret := (some .int)) (by decide) rfl ?_
  intro p e s m args below meth c s₁ B hml hv
  obtain ⟨rfl, hsz, hP, hK, hD0, hN, hZ⟩ := hv
  have hx := B.exec
  have hb := B.bytes
  have hr := B.returns
  have hts := atoms_spec (ws := wsX8_show) B.pre
  have hown : s.vm.findClass RX8 = some m.cls := findClass_of_methodNamed B.named
  have hlocks := B.notSynchronized
  subst hsz
  have hD := hD0.self (sz := s.heap.size)
  have hA := zA_of hD
  have hl := lv_entry ([.ref m0, .int s_, .int p_]) (n := 3) (Nat.le_of_ble_eq_true rfl)
  rw [lg_entry_eq]
  generalize (lg_sl ([.ref m0, .int s_, .int p_]) ++ List.replicate (3 - (lg_sl ([.ref m0, .int s_, .int p_])).length) Slot.unset).toArray = ls at hl ⊢
  replace hl : lv_has ls 3 [(0, .ref m0), (1, .int s_), (2, .int p_)] := hl
  refine zw_begin hP hD (fun H locs hP1 hS => ?_)
  clear hP
  have hP := hP1
  clear hP1
  refine lv_aload_n hx hb dX8_show_0 rfl (lv_at hl 0 rfl) ?_
  refine lv_iload_n hx hb dX8_show_1 rfl (lv_at hl 1 rfl) ?_
  refine zc_V (As := [.int s_]) (rest := []) ⟨hx, hb, hml, hown, hts⟩ (c_M_isShelf l D cI cJ cZ cP cS po m0 mrf mki mpa mta mla msl mco mhe mso msi msh mce mca mwo mnu mte mwa mke mma mth mtr (npu) (nte) (nat_) (nde) (nto) (nse) (nhu) (nga) (nsd) (nfa) (nba) (npl) (nen) (nnu) (nwr) (nra) (nik) (s_) hy0 hy1 hy2 hy3 hy4 hy5 hy6 hy7 hy8 hy9 hy10 hy11 hy12 hy13) (cwV 1 hts gX8_show_X8_isShelf rfl rfl rfl ⟨rfl, dh_X8_isShelf⟩ ⟨Nat.le_of_ble_eq_true rfl, Nat.le_of_ble_eq_true rfl⟩) hK hN (hZ.kept hS) hP (hP.sub [0] rfl) (va_recv (q := (RX8, TX8, 38)) hK hP (ci := 8) (q0 := 0) rfl rfl) rfl hl.1 rfl (Nat.le_of_ble_eq_true rfl) dX8_show_2 ⟨Nat.le_of_ble_eq_true rfl, Nat.le_of_ble_eq_true rfl⟩ (fun r_1 hr_1 => ?_)
  rcases hr_1 with ⟨rfl, g_2⟩ | ⟨rfl, g_3, g_4⟩ | ⟨rfl, g_5, g_6⟩
  · refine lv_if_eq (tgt := 21) hx hb dX8_show_5 (by decide) (fun c_7 => ?_) (fun c_7 => ?_)
    · refine lv_aload_n hx hb dX8_show_21 rfl (lv_at hl 0 rfl) ?_
      refine lv_iconst (v := (-1)) hx hb dX8_show_22 (by decide) ?_
      skip
      refine zw_V (As := [.int (-1)]) (rest := []) (wr := [(mhe, .inl (cI, 8, .inl ghe)), (msh, .inl (cI, 8, .inl gsh))]) ⟨hx, hb, hml, hown, hts⟩ (c_M_no_1 l D cI cJ cZ cP cS po m0 mrf mki mpa mta mla msl mco mhe mso msi msh mce mca mwo mnu mte mwa mke mma mth mtr (npu) (nte) (nat_) (nde) (nto) (nse) (nhu) (nga) (nsd) (nfa) (nba) (npl) (nen) (nnu) (nwr) (nra) (nik) grf hy0 hy1 hy2 hy3 hy4 hy5 hy6 hy7 hy8 hy9 hy10 hy11 hy12 hy13 H.size) (cwV 1 hts gX8_show_X8_no rfl rfl rfl ⟨rfl, dh_X8_no⟩ ⟨Nat.le_of_ble_eq_true rfl, Nat.le_of_ble_eq_true rfl⟩) hK hN (hZ.kept hS) hP hD hS hA [0, 1] [2, 3] rfl rfl (by decide) (by decide) (by decide) (va_recv (q := (RX8, TX8, 38)) hK hP (ci := 8) (q0 := 0) rfl rfl) rfl hl.1 rfl (Nat.le_of_ble_eq_true rfl) dX8_show_23 ⟨Nat.le_of_ble_eq_true rfl, Nat.le_of_ble_eq_true rfl⟩ (fun r_8 u_9 H locs hr_8 hP hD hS => ?_)
      obtain ⟨q_10, rfl⟩ : ∃ z, z = u_9 := ⟨_, rfl⟩
      have h9R := zRe (ws' := [(mhe, .inl (cI, 8, .inl ghe)), (msh, .inl (cI, 8, .inl gsh)), (zMO m0 npu nte nat_ nde nto nse nhu nga nsd nfa mrf mki mpa mta mla msl mco mhe mso msi msh mce mca mwo mnu mte nba npl nen nnu nwr mwa mke mma mth mtr nra nik), (mrf, .inl (cI, 8, .inl q_10))]) hP hD rfl
      clear hP hD
      obtain ⟨hP, hD⟩ := h9R
      obtain rfl := hr_8
      exact W.iret (v := (-1)) hx hb hr (fun t ht hW => ⟨⟨(-1), (q_10, ghe, gsh), rfl, ⟨hp_ghe, hp_gsh, (show zHS ghe gsh from by exact hHS), (show (((s_.toInt < 0 ∨ 7 < s_.toInt) ∨ (p_.toInt ≠ -1 ∧ (p_.toInt < 0 ∨ npu.toInt ≤ p_.toInt))) ∧ ((-1) : Int32).toInt = -1 ∧ ghe = ghe ∧ gsh = gsh) ∨ ((0 ≤ s_.toInt ∧ s_.toInt ≤ 7) ∧ p_.toInt = -1 ∧ ((-1) : Int32).toInt = 0 ∧ ghe = upd ghe s_.toNatClampNeg 0 ∧ gsh = upd gsh s_.toNatClampNeg p_) ∨ ((0 ≤ s_.toInt ∧ s_.toInt ≤ 7) ∧ (0 ≤ p_.toInt ∧ p_.toInt < npu.toInt) ∧ ((-1) : Int32).toInt = 1 ∧ ghe = upd ghe s_.toNatClampNeg 2 ∧ gsh = upd gsh s_.toNatClampNeg p_) from by (have k9 : ((-1) : Int32).toInt = -1 := (by decide); have km : ((-1) : Int32).toInt = -1 := (by decide); first | exact Or.inl ⟨by omega, by omega, rfl, rfl⟩ | exact Or.inr (Or.inl ⟨by omega, by omega, by omega, rfl, rfl⟩) | exact Or.inr (Or.inr ⟨by omega, by omega, by omega, rfl, rfl⟩))), trivial⟩, zRet ht hP hD [2, 3, 0, 1] (by decide) rfl⟩, hS.F ht⟩) hS.2.2 dX8_show_26
    · exact absurd c_7 (by decide)
  · refine lv_if_eq (tgt := 21) hx hb dX8_show_5 (by decide) (fun c_11 => ?_) (fun c_11 => ?_)
    · refine lv_aload_n hx hb dX8_show_21 rfl (lv_at hl 0 rfl) ?_
      refine lv_iconst (v := (-1)) hx hb dX8_show_22 (by decide) ?_
      skip
      refine zw_V (As := [.int (-1)]) (rest := []) (wr := [(mhe, .inl (cI, 8, .inl ghe)), (msh, .inl (cI, 8, .inl gsh))]) ⟨hx, hb, hml, hown, hts⟩ (c_M_no_1 l D cI cJ cZ cP cS po m0 mrf mki mpa mta mla msl mco mhe mso msi msh mce mca mwo mnu mte mwa mke mma mth mtr (npu) (nte) (nat_) (nde) (nto) (nse) (nhu) (nga) (nsd) (nfa) (nba) (npl) (nen) (nnu) (nwr) (nra) (nik) grf hy0 hy1 hy2 hy3 hy4 hy5 hy6 hy7 hy8 hy9 hy10 hy11 hy12 hy13 H.size) (cwV 1 hts gX8_show_X8_no rfl rfl rfl ⟨rfl, dh_X8_no⟩ ⟨Nat.le_of_ble_eq_true rfl, Nat.le_of_ble_eq_true rfl⟩) hK hN (hZ.kept hS) hP hD hS hA [0, 1] [2, 3] rfl rfl (by decide) (by decide) (by decide) (va_recv (q := (RX8, TX8, 38)) hK hP (ci := 8) (q0 := 0) rfl rfl) rfl hl.1 rfl (Nat.le_of_ble_eq_true rfl) dX8_show_23 ⟨Nat.le_of_ble_eq_true rfl, Nat.le_of_ble_eq_true rfl⟩ (fun r_12 u_13 H locs hr_12 hP hD hS => ?_)
      obtain ⟨q_14, rfl⟩ : ∃ z, z = u_13 := ⟨_, rfl⟩
      have h9R := zRe (ws' := [(mhe, .inl (cI, 8, .inl ghe)), (msh, .inl (cI, 8, .inl gsh)), (zMO m0 npu nte nat_ nde nto nse nhu nga nsd nfa mrf mki mpa mta mla msl mco mhe mso msi msh mce mca mwo mnu mte nba npl nen nnu nwr mwa mke mma mth mtr nra nik), (mrf, .inl (cI, 8, .inl q_14))]) hP hD rfl
      clear hP hD
      obtain ⟨hP, hD⟩ := h9R
      obtain rfl := hr_12
      exact W.iret (v := (-1)) hx hb hr (fun t ht hW => ⟨⟨(-1), (q_14, ghe, gsh), rfl, ⟨hp_ghe, hp_gsh, (show zHS ghe gsh from by exact hHS), (show (((s_.toInt < 0 ∨ 7 < s_.toInt) ∨ (p_.toInt ≠ -1 ∧ (p_.toInt < 0 ∨ npu.toInt ≤ p_.toInt))) ∧ ((-1) : Int32).toInt = -1 ∧ ghe = ghe ∧ gsh = gsh) ∨ ((0 ≤ s_.toInt ∧ s_.toInt ≤ 7) ∧ p_.toInt = -1 ∧ ((-1) : Int32).toInt = 0 ∧ ghe = upd ghe s_.toNatClampNeg 0 ∧ gsh = upd gsh s_.toNatClampNeg p_) ∨ ((0 ≤ s_.toInt ∧ s_.toInt ≤ 7) ∧ (0 ≤ p_.toInt ∧ p_.toInt < npu.toInt) ∧ ((-1) : Int32).toInt = 1 ∧ ghe = upd ghe s_.toNatClampNeg 2 ∧ gsh = upd gsh s_.toNatClampNeg p_) from by (have k9 : ((-1) : Int32).toInt = -1 := (by decide); have km : ((-1) : Int32).toInt = -1 := (by decide); first | exact Or.inl ⟨by omega, by omega, rfl, rfl⟩ | exact Or.inr (Or.inl ⟨by omega, by omega, by omega, rfl, rfl⟩) | exact Or.inr (Or.inr ⟨by omega, by omega, by omega, rfl, rfl⟩))), trivial⟩, zRet ht hP hD [2, 3, 0, 1] (by decide) rfl⟩, hS.F ht⟩) hS.2.2 dX8_show_26
    · exact absurd c_11 (by decide)
  · refine lv_if_eq (tgt := 21) hx hb dX8_show_5 (by decide) (fun c_15 => ?_) (fun c_15 => ?_)
    · exact absurd c_15 (by decide)
    · refine lv_iload_n hx hb dX8_show_8 rfl (lv_at hl 2 rfl) ?_
      refine lv_iconst (v := (-1)) hx hb dX8_show_9 (by decide) ?_
      refine lv_icmp_eq (tgt := 27) hx hb dX8_show_10 (by decide) (fun c_16 => ?_) (fun c_16 => ?_)
      · have fc_16 : p_.toInt = (-1) := zf_eq c_16 rfl (by decide)
        refine lv_aload_n hx hb dX8_show_27 rfl (lv_at hl 0 rfl) ?_
        refine va_get (D := D) (ci := 8) (v := .ref mhe) (C := RX8) (T := TX8) (N := 38) hx hb hts hi_X8_show_8 hown hK hP 0 rfl rfl 17 (by decide) (hts (.fieldLink RX8 47 "TheLiningsInItModel" "held" "[I") (List.mem_of_getElem? (i := 1) rfl)) (fun _ h9 => h9) rfl dX8_show_28 ?_
        refine lv_iload_n hx hb dX8_show_31 rfl (lv_at hl 1 rfl) ?_
        refine lv_iload_n hx hb dX8_show_32 rfl (lv_at hl 2 rfl) ?_
        refine lv_iconst (v := (-1)) hx hb dX8_show_33 (by decide) ?_
        refine lv_icmp_ne (tgt := 41) hx hb dX8_show_34 (by decide) (fun c_17 => ?_) (fun c_17 => ?_)
        · exfalso; have fc_17 : p_.toInt ≠ (-1) := zf_ne c_17 rfl (by decide); omega
        · have fc_17 : p_.toInt = (-1) := zf_eq c_17 rfl (by decide)
          refine lv_iconst (v := 0) hx hb dX8_show_37 (by decide) ?_
          refine lv_goto (tgt := 42) hx hb dX8_show_38 (by decide) ?_
          refine va_iast hx hb hK hP hD hS 2 0 rfl rfl (zf_in (by omega) (by omega)) dX8_show_42 (fun H locs hP hD hS => ?_)
          have hpg_18 : zRg (upd ghe s_.toNatClampNeg 0) (0) 2 := zRg_upd hp_ghe (by decide) (by decide)
          obtain ⟨g_18, hg_18⟩ : ∃ g : Nat → Int32, g = upd ghe s_.toNatClampNeg 0 := ⟨_, rfl⟩
          rw [← hg_18] at hP hD hpg_18
          have h9R := zRe (ws' := [(zMO m0 npu nte nat_ nde nto nse nhu nga nsd nfa mrf mki mpa mta mla msl mco mhe mso msi msh mce mca mwo mnu mte nba npl nen nnu nwr mwa mke mma mth mtr nra nik), (mrf, .inl (cI, 8, .inl grf)), (mhe, .inl (cI, 8, .inl g_18)), (msh, .inl (cI, 8, .inl gsh))]) hP hD rfl
          clear hP hD
          obtain ⟨hP, hD⟩ := h9R
          refine lv_aload_n hx hb dX8_show_43 rfl (lv_at hl 0 rfl) ?_
          refine va_get (D := D) (ci := 8) (v := .ref msh) (C := RX8) (T := TX8) (N := 38) hx hb hts hi_X8_show_8 hown hK hP 0 rfl rfl 20 (by decide) (hts (.fieldLink RX8 56 "TheLiningsInItModel" "shown" "[I") (List.mem_of_getElem? (i := 2) rfl)) (fun _ h9 => h9) rfl dX8_show_44 ?_
          refine lv_iload_n hx hb dX8_show_47 rfl (lv_at hl 1 rfl) ?_
          refine lv_iload_n hx hb dX8_show_48 rfl (lv_at hl 2 rfl) ?_
          refine va_iast hx hb hK hP hD hS 3 0 rfl rfl (zf_in (by omega) (by omega)) dX8_show_49 (fun H locs hP hD hS => ?_)
          have hpg_19 : zRg (upd gsh s_.toNatClampNeg p_) (-1) 7 := zRg_upd hp_gsh (by omega) (by omega)
          obtain ⟨g_19, hg_19⟩ : ∃ g : Nat → Int32, g = upd gsh s_.toNatClampNeg p_ := ⟨_, rfl⟩
          rw [← hg_19] at hP hD hpg_19
          have h9R := zRe (ws' := [(zMO m0 npu nte nat_ nde nto nse nhu nga nsd nfa mrf mki mpa mta mla msl mco mhe mso msi msh mce mca mwo mnu mte nba npl nen nnu nwr mwa mke mma mth mtr nra nik), (mrf, .inl (cI, 8, .inl grf)), (mhe, .inl (cI, 8, .inl g_18)), (msh, .inl (cI, 8, .inl g_19))]) hP hD rfl
          clear hP hD
          obtain ⟨hP, hD⟩ := h9R
          have hHS1 : zHS g_18 g_19 := by
            intro j hj
            rw [hg_18] at hj
            rw [hg_19]
            simp only [upd] at hj ⊢
            by_cases e9 : j = s_.toNatClampNeg
            · rw [if_pos e9] at hj ⊢
              first | exact absurd hj (by decide) | exact ⟨by omega, by omega⟩
            · rw [if_neg e9] at hj ⊢
              exact hHS j hj
          refine lv_iload_n hx hb dX8_show_50 rfl (lv_at hl 2 rfl) ?_
          refine lv_iconst (v := (-1)) hx hb dX8_show_51 (by decide) ?_
          refine lv_icmp_ne (tgt := 59) hx hb dX8_show_52 (by decide) (fun c_20 => ?_) (fun c_20 => ?_)
          · exfalso; have fc_20 : p_.toInt ≠ (-1) := zf_ne c_20 rfl (by decide); omega
          · have fc_20 : p_.toInt = (-1) := zf_eq c_20 rfl (by decide)
            refine lv_iconst (v := 0) hx hb dX8_show_55 (by decide) ?_
            refine lv_goto (tgt := 60) hx hb dX8_show_56 (by decide) ?_
            exact W.iret (v := 0) hx hb hr (fun t ht hW => ⟨⟨0, (grf, g_18, g_19), rfl, ⟨hpg_18, hpg_19, (show zHS g_18 g_19 from by exact hHS1), (show (((s_.toInt < 0 ∨ 7 < s_.toInt) ∨ (p_.toInt ≠ -1 ∧ (p_.toInt < 0 ∨ npu.toInt ≤ p_.toInt))) ∧ (0 : Int32).toInt = -1 ∧ g_18 = ghe ∧ g_19 = gsh) ∨ ((0 ≤ s_.toInt ∧ s_.toInt ≤ 7) ∧ p_.toInt = -1 ∧ (0 : Int32).toInt = 0 ∧ g_18 = upd ghe s_.toNatClampNeg 0 ∧ g_19 = upd gsh s_.toNatClampNeg p_) ∨ ((0 ≤ s_.toInt ∧ s_.toInt ≤ 7) ∧ (0 ≤ p_.toInt ∧ p_.toInt < npu.toInt) ∧ (0 : Int32).toInt = 1 ∧ g_18 = upd ghe s_.toNatClampNeg 2 ∧ g_19 = upd gsh s_.toNatClampNeg p_) from by (have k9 : (0 : Int32).toInt = 0 := (by decide); have km : ((-1) : Int32).toInt = -1 := (by decide); first | exact Or.inl ⟨by omega, by omega, hg_18, hg_19⟩ | exact Or.inr (Or.inl ⟨by omega, by omega, by omega, hg_18, hg_19⟩) | exact Or.inr (Or.inr ⟨by omega, by omega, by omega, hg_18, hg_19⟩))), trivial⟩, zRet ht hP hD [0, 1, 2, 3] (by decide) rfl⟩, hS.F ht⟩) hS.2.2 dX8_show_60
      · have fc_16 : p_.toInt ≠ (-1) := zf_ne c_16 rfl (by decide)
        refine lv_aload_n hx hb dX8_show_13 rfl (lv_at hl 0 rfl) ?_
        refine lv_iload_n hx hb dX8_show_14 rfl (lv_at hl 2 rfl) ?_
        refine zc_V (As := [.int p_]) (rest := []) ⟨hx, hb, hml, hown, hts⟩ (c_M_isPull l D cI cJ cZ cP cS po m0 mrf mki mpa mta mla msl mco mhe mso msi msh mce mca mwo mnu mte mwa mke mma mth mtr (npu) (nte) (nat_) (nde) (nto) (nse) (nhu) (nga) (nsd) (nfa) (nba) (npl) (nen) (nnu) (nwr) (nra) (nik) (p_) hy0 hy1 hy2 hy3 hy4 hy5 hy6 hy7 hy8 hy9 hy10 hy11 hy12 hy13) (cwV 1 hts gX8_show_X8_isPull rfl rfl rfl ⟨rfl, dh_X8_isPull⟩ ⟨Nat.le_of_ble_eq_true rfl, Nat.le_of_ble_eq_true rfl⟩) hK hN (hZ.kept hS) hP (hP.sub [0] rfl) (va_recv (q := (RX8, TX8, 38)) hK hP (ci := 8) (q0 := 0) rfl rfl) rfl hl.1 rfl (Nat.le_of_ble_eq_true rfl) dX8_show_15 ⟨Nat.le_of_ble_eq_true rfl, Nat.le_of_ble_eq_true rfl⟩ (fun r_21 hr_21 => ?_)
        rcases hr_21 with ⟨rfl, g_22⟩ | ⟨rfl, g_23, g_24⟩ | ⟨rfl, g_25, g_26⟩
        · refine lv_if_ne (tgt := 27) hx hb dX8_show_18 (by decide) (fun c_27 => ?_) (fun c_27 => ?_)
          · exact absurd c_27 (by decide)
          · refine lv_aload_n hx hb dX8_show_21 rfl (lv_at hl 0 rfl) ?_
            refine lv_iconst (v := (-1)) hx hb dX8_show_22 (by decide) ?_
            skip
            refine zw_V (As := [.int (-1)]) (rest := []) (wr := [(mhe, .inl (cI, 8, .inl ghe)), (msh, .inl (cI, 8, .inl gsh))]) ⟨hx, hb, hml, hown, hts⟩ (c_M_no_1 l D cI cJ cZ cP cS po m0 mrf mki mpa mta mla msl mco mhe mso msi msh mce mca mwo mnu mte mwa mke mma mth mtr (npu) (nte) (nat_) (nde) (nto) (nse) (nhu) (nga) (nsd) (nfa) (nba) (npl) (nen) (nnu) (nwr) (nra) (nik) grf hy0 hy1 hy2 hy3 hy4 hy5 hy6 hy7 hy8 hy9 hy10 hy11 hy12 hy13 H.size) (cwV 1 hts gX8_show_X8_no rfl rfl rfl ⟨rfl, dh_X8_no⟩ ⟨Nat.le_of_ble_eq_true rfl, Nat.le_of_ble_eq_true rfl⟩) hK hN (hZ.kept hS) hP hD hS hA [0, 1] [2, 3] rfl rfl (by decide) (by decide) (by decide) (va_recv (q := (RX8, TX8, 38)) hK hP (ci := 8) (q0 := 0) rfl rfl) rfl hl.1 rfl (Nat.le_of_ble_eq_true rfl) dX8_show_23 ⟨Nat.le_of_ble_eq_true rfl, Nat.le_of_ble_eq_true rfl⟩ (fun r_28 u_29 H locs hr_28 hP hD hS => ?_)
            obtain ⟨q_30, rfl⟩ : ∃ z, z = u_29 := ⟨_, rfl⟩
            have h9R := zRe (ws' := [(mhe, .inl (cI, 8, .inl ghe)), (msh, .inl (cI, 8, .inl gsh)), (zMO m0 npu nte nat_ nde nto nse nhu nga nsd nfa mrf mki mpa mta mla msl mco mhe mso msi msh mce mca mwo mnu mte nba npl nen nnu nwr mwa mke mma mth mtr nra nik), (mrf, .inl (cI, 8, .inl q_30))]) hP hD rfl
            clear hP hD
            obtain ⟨hP, hD⟩ := h9R
            obtain rfl := hr_28
            exact W.iret (v := (-1)) hx hb hr (fun t ht hW => ⟨⟨(-1), (q_30, ghe, gsh), rfl, ⟨hp_ghe, hp_gsh, (show zHS ghe gsh from by exact hHS), (show (((s_.toInt < 0 ∨ 7 < s_.toInt) ∨ (p_.toInt ≠ -1 ∧ (p_.toInt < 0 ∨ npu.toInt ≤ p_.toInt))) ∧ ((-1) : Int32).toInt = -1 ∧ ghe = ghe ∧ gsh = gsh) ∨ ((0 ≤ s_.toInt ∧ s_.toInt ≤ 7) ∧ p_.toInt = -1 ∧ ((-1) : Int32).toInt = 0 ∧ ghe = upd ghe s_.toNatClampNeg 0 ∧ gsh = upd gsh s_.toNatClampNeg p_) ∨ ((0 ≤ s_.toInt ∧ s_.toInt ≤ 7) ∧ (0 ≤ p_.toInt ∧ p_.toInt < npu.toInt) ∧ ((-1) : Int32).toInt = 1 ∧ ghe = upd ghe s_.toNatClampNeg 2 ∧ gsh = upd gsh s_.toNatClampNeg p_) from by (have k9 : ((-1) : Int32).toInt = -1 := (by decide); have km : ((-1) : Int32).toInt = -1 := (by decide); first | exact Or.inl ⟨by omega, by omega, rfl, rfl⟩ | exact Or.inr (Or.inl ⟨by omega, by omega, by omega, rfl, rfl⟩) | exact Or.inr (Or.inr ⟨by omega, by omega, by omega, rfl, rfl⟩))), trivial⟩, zRet ht hP hD [2, 3, 0, 1] (by decide) rfl⟩, hS.F ht⟩) hS.2.2 dX8_show_26
        · refine lv_if_ne (tgt := 27) hx hb dX8_show_18 (by decide) (fun c_31 => ?_) (fun c_31 => ?_)
          · exact absurd c_31 (by decide)
          · refine lv_aload_n hx hb dX8_show_21 rfl (lv_at hl 0 rfl) ?_
            refine lv_iconst (v := (-1)) hx hb dX8_show_22 (by decide) ?_
            skip
            refine zw_V (As := [.int (-1)]) (rest := []) (wr := [(mhe, .inl (cI, 8, .inl ghe)), (msh, .inl (cI, 8, .inl gsh))]) ⟨hx, hb, hml, hown, hts⟩ (c_M_no_1 l D cI cJ cZ cP cS po m0 mrf mki mpa mta mla msl mco mhe mso msi msh mce mca mwo mnu mte mwa mke mma mth mtr (npu) (nte) (nat_) (nde) (nto) (nse) (nhu) (nga) (nsd) (nfa) (nba) (npl) (nen) (nnu) (nwr) (nra) (nik) grf hy0 hy1 hy2 hy3 hy4 hy5 hy6 hy7 hy8 hy9 hy10 hy11 hy12 hy13 H.size) (cwV 1 hts gX8_show_X8_no rfl rfl rfl ⟨rfl, dh_X8_no⟩ ⟨Nat.le_of_ble_eq_true rfl, Nat.le_of_ble_eq_true rfl⟩) hK hN (hZ.kept hS) hP hD hS hA [0, 1] [2, 3] rfl rfl (by decide) (by decide) (by decide) (va_recv (q := (RX8, TX8, 38)) hK hP (ci := 8) (q0 := 0) rfl rfl) rfl hl.1 rfl (Nat.le_of_ble_eq_true rfl) dX8_show_23 ⟨Nat.le_of_ble_eq_true rfl, Nat.le_of_ble_eq_true rfl⟩ (fun r_32 u_33 H locs hr_32 hP hD hS => ?_)
            obtain ⟨q_34, rfl⟩ : ∃ z, z = u_33 := ⟨_, rfl⟩
            have h9R := zRe (ws' := [(mhe, .inl (cI, 8, .inl ghe)), (msh, .inl (cI, 8, .inl gsh)), (zMO m0 npu nte nat_ nde nto nse nhu nga nsd nfa mrf mki mpa mta mla msl mco mhe mso msi msh mce mca mwo mnu mte nba npl nen nnu nwr mwa mke mma mth mtr nra nik), (mrf, .inl (cI, 8, .inl q_34))]) hP hD rfl
            clear hP hD
            obtain ⟨hP, hD⟩ := h9R
            obtain rfl := hr_32
            exact W.iret (v := (-1)) hx hb hr (fun t ht hW => ⟨⟨(-1), (q_34, ghe, gsh), rfl, ⟨hp_ghe, hp_gsh, (show zHS ghe gsh from by exact hHS), (show (((s_.toInt < 0 ∨ 7 < s_.toInt) ∨ (p_.toInt ≠ -1 ∧ (p_.toInt < 0 ∨ npu.toInt ≤ p_.toInt))) ∧ ((-1) : Int32).toInt = -1 ∧ ghe = ghe ∧ gsh = gsh) ∨ ((0 ≤ s_.toInt ∧ s_.toInt ≤ 7) ∧ p_.toInt = -1 ∧ ((-1) : Int32).toInt = 0 ∧ ghe = upd ghe s_.toNatClampNeg 0 ∧ gsh = upd gsh s_.toNatClampNeg p_) ∨ ((0 ≤ s_.toInt ∧ s_.toInt ≤ 7) ∧ (0 ≤ p_.toInt ∧ p_.toInt < npu.toInt) ∧ ((-1) : Int32).toInt = 1 ∧ ghe = upd ghe s_.toNatClampNeg 2 ∧ gsh = upd gsh s_.toNatClampNeg p_) from by (have k9 : ((-1) : Int32).toInt = -1 := (by decide); have km : ((-1) : Int32).toInt = -1 := (by decide); first | exact Or.inl ⟨by omega, by omega, rfl, rfl⟩ | exact Or.inr (Or.inl ⟨by omega, by omega, by omega, rfl, rfl⟩) | exact Or.inr (Or.inr ⟨by omega, by omega, by omega, rfl, rfl⟩))), trivial⟩, zRet ht hP hD [2, 3, 0, 1] (by decide) rfl⟩, hS.F ht⟩) hS.2.2 dX8_show_26
        · refine lv_if_ne (tgt := 27) hx hb dX8_show_18 (by decide) (fun c_35 => ?_) (fun c_35 => ?_)
          · refine lv_aload_n hx hb dX8_show_27 rfl (lv_at hl 0 rfl) ?_
            refine va_get (D := D) (ci := 8) (v := .ref mhe) (C := RX8) (T := TX8) (N := 38) hx hb hts hi_X8_show_8 hown hK hP 0 rfl rfl 17 (by decide) (hts (.fieldLink RX8 47 "TheLiningsInItModel" "held" "[I") (List.mem_of_getElem? (i := 1) rfl)) (fun _ h9 => h9) rfl dX8_show_28 ?_
            refine lv_iload_n hx hb dX8_show_31 rfl (lv_at hl 1 rfl) ?_
            refine lv_iload_n hx hb dX8_show_32 rfl (lv_at hl 2 rfl) ?_
            refine lv_iconst (v := (-1)) hx hb dX8_show_33 (by decide) ?_
            refine lv_icmp_ne (tgt := 41) hx hb dX8_show_34 (by decide) (fun c_36 => ?_) (fun c_36 => ?_)
            · have fc_36 : p_.toInt ≠ (-1) := zf_ne c_36 rfl (by decide)
              refine lv_iconst (v := 2) hx hb dX8_show_41 (by decide) ?_
              refine va_iast hx hb hK hP hD hS 2 0 rfl rfl (zf_in (by omega) (by omega)) dX8_show_42 (fun H locs hP hD hS => ?_)
              have hpg_37 : zRg (upd ghe s_.toNatClampNeg 2) (0) 2 := zRg_upd hp_ghe (by decide) (by decide)
              obtain ⟨g_37, hg_37⟩ : ∃ g : Nat → Int32, g = upd ghe s_.toNatClampNeg 2 := ⟨_, rfl⟩
              rw [← hg_37] at hP hD hpg_37
              have h9R := zRe (ws' := [(zMO m0 npu nte nat_ nde nto nse nhu nga nsd nfa mrf mki mpa mta mla msl mco mhe mso msi msh mce mca mwo mnu mte nba npl nen nnu nwr mwa mke mma mth mtr nra nik), (mrf, .inl (cI, 8, .inl grf)), (mhe, .inl (cI, 8, .inl g_37)), (msh, .inl (cI, 8, .inl gsh))]) hP hD rfl
              clear hP hD
              obtain ⟨hP, hD⟩ := h9R
              refine lv_aload_n hx hb dX8_show_43 rfl (lv_at hl 0 rfl) ?_
              refine va_get (D := D) (ci := 8) (v := .ref msh) (C := RX8) (T := TX8) (N := 38) hx hb hts hi_X8_show_8 hown hK hP 0 rfl rfl 20 (by decide) (hts (.fieldLink RX8 56 "TheLiningsInItModel" "shown" "[I") (List.mem_of_getElem? (i := 2) rfl)) (fun _ h9 => h9) rfl dX8_show_44 ?_
              refine lv_iload_n hx hb dX8_show_47 rfl (lv_at hl 1 rfl) ?_
              refine lv_iload_n hx hb dX8_show_48 rfl (lv_at hl 2 rfl) ?_
              refine va_iast hx hb hK hP hD hS 3 0 rfl rfl (zf_in (by omega) (by omega)) dX8_show_49 (fun H locs hP hD hS => ?_)
              have hpg_38 : zRg (upd gsh s_.toNatClampNeg p_) (-1) 7 := zRg_upd hp_gsh (by omega) (by omega)
              obtain ⟨g_38, hg_38⟩ : ∃ g : Nat → Int32, g = upd gsh s_.toNatClampNeg p_ := ⟨_, rfl⟩
              rw [← hg_38] at hP hD hpg_38
              have h9R := zRe (ws' := [(zMO m0 npu nte nat_ nde nto nse nhu nga nsd nfa mrf mki mpa mta mla msl mco mhe mso msi msh mce mca mwo mnu mte nba npl nen nnu nwr mwa mke mma mth mtr nra nik), (mrf, .inl (cI, 8, .inl grf)), (mhe, .inl (cI, 8, .inl g_37)), (msh, .inl (cI, 8, .inl g_38))]) hP hD rfl
              clear hP hD
              obtain ⟨hP, hD⟩ := h9R
              have hHS1 : zHS g_37 g_38 := by
                intro j hj
                rw [hg_37] at hj
                rw [hg_38]
                simp only [upd] at hj ⊢
                by_cases e9 : j = s_.toNatClampNeg
                · rw [if_pos e9] at hj ⊢
                  first | exact absurd hj (by decide) | exact ⟨by omega, by omega⟩
                · rw [if_neg e9] at hj ⊢
                  exact hHS j hj
              refine lv_iload_n hx hb dX8_show_50 rfl (lv_at hl 2 rfl) ?_
              refine lv_iconst (v := (-1)) hx hb dX8_show_51 (by decide) ?_
              refine lv_icmp_ne (tgt := 59) hx hb dX8_show_52 (by decide) (fun c_39 => ?_) (fun c_39 => ?_)
              · have fc_39 : p_.toInt ≠ (-1) := zf_ne c_39 rfl (by decide)
                refine lv_iconst (v := 1) hx hb dX8_show_59 (by decide) ?_
                exact W.iret (v := 1) hx hb hr (fun t ht hW => ⟨⟨1, (grf, g_37, g_38), rfl, ⟨hpg_37, hpg_38, (show zHS g_37 g_38 from by exact hHS1), (show (((s_.toInt < 0 ∨ 7 < s_.toInt) ∨ (p_.toInt ≠ -1 ∧ (p_.toInt < 0 ∨ npu.toInt ≤ p_.toInt))) ∧ (1 : Int32).toInt = -1 ∧ g_37 = ghe ∧ g_38 = gsh) ∨ ((0 ≤ s_.toInt ∧ s_.toInt ≤ 7) ∧ p_.toInt = -1 ∧ (1 : Int32).toInt = 0 ∧ g_37 = upd ghe s_.toNatClampNeg 0 ∧ g_38 = upd gsh s_.toNatClampNeg p_) ∨ ((0 ≤ s_.toInt ∧ s_.toInt ≤ 7) ∧ (0 ≤ p_.toInt ∧ p_.toInt < npu.toInt) ∧ (1 : Int32).toInt = 1 ∧ g_37 = upd ghe s_.toNatClampNeg 2 ∧ g_38 = upd gsh s_.toNatClampNeg p_) from by (have k9 : (1 : Int32).toInt = 1 := (by decide); have km : ((-1) : Int32).toInt = -1 := (by decide); first | exact Or.inl ⟨by omega, by omega, hg_37, hg_38⟩ | exact Or.inr (Or.inl ⟨by omega, by omega, by omega, hg_37, hg_38⟩) | exact Or.inr (Or.inr ⟨by omega, by omega, by omega, hg_37, hg_38⟩))), trivial⟩, zRet ht hP hD [0, 1, 2, 3] (by decide) rfl⟩, hS.F ht⟩) hS.2.2 dX8_show_60
              · exfalso; have fc_39 : p_.toInt = (-1) := zf_eq c_39 rfl (by decide); omega
            · exfalso; have fc_36 : p_.toInt = (-1) := zf_eq c_36 rfl (by decide); omega
          · exact absurd c_35 (by decide)
set_option maxHeartbeats 4000000 in
set_option maxRecDepth 100000 in
theorem c_F_M_holds (l : Launch) (D : va_G) (cI cJ cZ cP cS : ClassId) (po : zPool) (m0 mrf mki mpa mta mla msl mco mhe mso msi msh mce mca mwo mnu mte mwa mke mma mth mtr : Nat) (npu nte nat_ nde nto nse nhu nga nsd nfa nba npl nen nnu nwr nra nik : Int32) (ghe gso gsh : Nat → Int32) (s_ : Int32) (hy0 : 0 ≤ npu.toInt) (hy1 : npu.toInt ≤ 8) (hy2 : 4 ≤ nte.toInt) (hy3 : nte.toInt ≤ 40) (hy4 : 0 ≤ nat_.toInt) (hy5 : nat_.toInt ≤ 40) (hy6 : 0 ≤ nde.toInt) (hy7 : nde.toInt ≤ 24) (hy8 : 0 ≤ nhu.toInt) (hy9 : nhu.toInt ≤ 9) (hy10 : 0 ≤ nra.toInt) (hy11 : nra.toInt ≤ 2000) (hy12 : 0 ≤ nik.toInt) (hy13 : nik.toInt ≤ 1) (hp_ghe : zRg ghe (0) 2) (hp_gso : zRg gso (0) 3) (hp_gsh : zRg gsh (-1) 7) : Met l yX8_holds wsX8_holds ({ frames := 1, cells := 0, slots := 0, locals := 21 }) (va_Pc [.ref m0, .int s_] (zR D (zKT cI cJ cZ cP cS) po [(zMO m0 npu nte nat_ nde nto nse nhu nga nsd nfa mrf mki mpa mta mla msl mco mhe mso msi msh mce mca mwo mnu mte nba npl nen nnu nwr mwa mke mma mth mtr nra nik), (mhe, .inl (cI, 8, .inl ghe)), (mso, .inl (cI, 8, .inl gso)), (msh, .inl (cI, 8, .inl gsh))])) (vp_Si (fun r => (((s_.toInt < 0 ∨ 7 < s_.toInt) ∧ r.toInt = -1) ∨ ((0 ≤ s_.toInt ∧ s_.toInt ≤ 7) ∧ r.toInt = zHe (ghe s_.toNatClampNeg).toInt (gso s_.toNatClampNeg).toInt (gsh s_.toNatClampNeg).toInt)))) 0 0 (fun _ => False) := by
  refine Met.ofW (cc := cX8_holds) (maxL := 2) (ret := (some .int)) (by decide) rfl ?_
  intro p e s m args below meth c s₁ B hml hv
  obtain ⟨rfl, hP, hK, hN, hZ⟩ := hv
  have hx := B.exec
  have hb := B.bytes
  have hr := B.returns
  have hts := atoms_spec (ws := wsX8_holds) B.pre
  have hown : s.vm.findClass RX8 = some m.cls := findClass_of_methodNamed B.named
  have hlocks := B.notSynchronized
  have hl := lv_entry ([.ref m0, .int s_]) (n := 2) (Nat.le_of_ble_eq_true rfl)
  rw [lg_entry_eq]
  generalize (lg_sl ([.ref m0, .int s_]) ++ List.replicate (2 - (lg_sl ([.ref m0, .int s_])).length) Slot.unset).toArray = ls at hl ⊢
  replace hl : lv_has ls 2 [(0, .ref m0), (1, .int s_)] := hl
  refine lv_aload_n hx hb dX8_holds_0 rfl (lv_at hl 0 rfl) ?_
  refine lv_iload_n hx hb dX8_holds_1 rfl (lv_at hl 1 rfl) ?_
  refine zc_V (As := [.int s_]) (rest := []) ⟨hx, hb, hml, hown, hts⟩ (c_M_isShelf l D cI cJ cZ cP cS po m0 mrf mki mpa mta mla msl mco mhe mso msi msh mce mca mwo mnu mte mwa mke mma mth mtr (npu) (nte) (nat_) (nde) (nto) (nse) (nhu) (nga) (nsd) (nfa) (nba) (npl) (nen) (nnu) (nwr) (nra) (nik) (s_) hy0 hy1 hy2 hy3 hy4 hy5 hy6 hy7 hy8 hy9 hy10 hy11 hy12 hy13) (cwV 1 hts gX8_holds_X8_isShelf rfl rfl rfl ⟨rfl, dh_X8_isShelf⟩ ⟨Nat.le_of_ble_eq_true rfl, Nat.le_of_ble_eq_true rfl⟩) hK hN hZ hP (hP.sub [0] rfl) (va_recv (q := (RX8, TX8, 38)) hK hP (ci := 8) (q0 := 0) rfl rfl) rfl hl.1 rfl (Nat.le_of_ble_eq_true rfl) dX8_holds_2 ⟨Nat.le_of_ble_eq_true rfl, Nat.le_of_ble_eq_true rfl⟩ (fun r_1 hr_1 => ?_)
  rcases hr_1 with ⟨rfl, g_2⟩ | ⟨rfl, g_3, g_4⟩ | ⟨rfl, g_5, g_6⟩
  · refine lv_if_eq (tgt := 17) hx hb dX8_holds_5 (by decide) (fun c_7 => ?_) (fun c_7 => ?_)
    · refine lv_iconst (v := (-1)) hx hb dX8_holds_17 (by decide) ?_
      exact W.iret (v := (-1)) hx hb hr (fun t ht hW => ⟨(-1), rfl, (show ((s_.toInt < 0 ∨ 7 < s_.toInt) ∧ ((-1) : Int32).toInt = -1) ∨ ((0 ≤ s_.toInt ∧ s_.toInt ≤ 7) ∧ ((-1) : Int32).toInt = zHe (ghe s_.toNatClampNeg).toInt (gso s_.toNatClampNeg).toInt (gsh s_.toNatClampNeg).toInt) from by (have k9 : ((-1) : Int32).toInt = -1 := (by decide); unfold zHe; first | (left; omega) | (right; refine ⟨by omega, ?_⟩; (repeat (first | rw [if_pos (by omega)] | rw [if_neg (by omega)])) <;> omega))), ht⟩) (fun q hq => by cases hq) dX8_holds_18
    · exact absurd c_7 (by decide)
  · refine lv_if_eq (tgt := 17) hx hb dX8_holds_5 (by decide) (fun c_8 => ?_) (fun c_8 => ?_)
    · refine lv_iconst (v := (-1)) hx hb dX8_holds_17 (by decide) ?_
      exact W.iret (v := (-1)) hx hb hr (fun t ht hW => ⟨(-1), rfl, (show ((s_.toInt < 0 ∨ 7 < s_.toInt) ∧ ((-1) : Int32).toInt = -1) ∨ ((0 ≤ s_.toInt ∧ s_.toInt ≤ 7) ∧ ((-1) : Int32).toInt = zHe (ghe s_.toNatClampNeg).toInt (gso s_.toNatClampNeg).toInt (gsh s_.toNatClampNeg).toInt) from by (have k9 : ((-1) : Int32).toInt = -1 := (by decide); unfold zHe; first | (left; omega) | (right; refine ⟨by omega, ?_⟩; (repeat (first | rw [if_pos (by omega)] | rw [if_neg (by omega)])) <;> omega))), ht⟩) (fun q hq => by cases hq) dX8_holds_18
    · exact absurd c_8 (by decide)
  · refine lv_if_eq (tgt := 17) hx hb dX8_holds_5 (by decide) (fun c_9 => ?_) (fun c_9 => ?_)
    · exact absurd c_9 (by decide)
    · refine lv_aload_n hx hb dX8_holds_8 rfl (lv_at hl 0 rfl) ?_
      refine va_get (D := D) (ci := 8) (v := .ref mhe) (C := RX8) (T := TX8) (N := 38) hx hb hts hi_X8_holds_8 hown hK hP 0 rfl rfl 17 (by decide) (hts (.fieldLink RX8 47 "TheLiningsInItModel" "held" "[I") (List.mem_of_getElem? (i := 1) rfl)) (fun _ h9 => h9) rfl dX8_holds_9 ?_
      refine lv_iload_n hx hb dX8_holds_12 rfl (lv_at hl 1 rfl) ?_
      refine va_iald hx hb hK hP 1 0 rfl rfl (zf_in (by omega) (by omega)) dX8_holds_13 ?_
      refine lv_topi (fun x_10 ex_10 => ?_)
      have bx_10 : 0 ≤ x_10.toInt ∧ x_10.toInt ≤ 2 := by rw [ex_10]; exact hp_ghe _
      refine lv_if_ne (tgt := 19) hx hb dX8_holds_14 (by decide) (fun c_11 => ?_) (fun c_11 => ?_)
      · have fc_11 : x_10.toInt ≠ 0 := zf_ne c_11 rfl (by decide)
        refine lv_aload_n hx hb dX8_holds_19 rfl (lv_at hl 0 rfl) ?_
        refine va_get (D := D) (ci := 8) (v := .ref mhe) (C := RX8) (T := TX8) (N := 38) hx hb hts hi_X8_holds_8 hown hK hP 0 rfl rfl 17 (by decide) (hts (.fieldLink RX8 47 "TheLiningsInItModel" "held" "[I") (List.mem_of_getElem? (i := 1) rfl)) (fun _ h9 => h9) rfl dX8_holds_20 ?_
        refine lv_iload_n hx hb dX8_holds_23 rfl (lv_at hl 1 rfl) ?_
        refine va_iald hx hb hK hP 1 0 rfl rfl (zf_in (by omega) (by omega)) dX8_holds_24 ?_
        refine lv_topi (fun y_12 ey_12 => ?_)
        obtain rfl : x_10 = y_12 := ex_10.trans ey_12.symm
        refine lv_iconst (v := 1) hx hb dX8_holds_25 (by decide) ?_
        refine lv_icmp_ne (tgt := 41) hx hb dX8_holds_26 (by decide) (fun c_13 => ?_) (fun c_13 => ?_)
        · have fc_13 : x_10.toInt ≠ 1 := zf_ne c_13 rfl (by decide)
          refine lv_aload_n hx hb dX8_holds_41 rfl (lv_at hl 0 rfl) ?_
          refine va_get (D := D) (ci := 8) (v := .ref msh) (C := RX8) (T := TX8) (N := 38) hx hb hts hi_X8_holds_8 hown hK hP 0 rfl rfl 20 (by decide) (hts (.fieldLink RX8 56 "TheLiningsInItModel" "shown" "[I") (List.mem_of_getElem? (i := 3) rfl)) (fun _ h9 => h9) rfl dX8_holds_42 ?_
          refine lv_iload_n hx hb dX8_holds_45 rfl (lv_at hl 1 rfl) ?_
          refine va_iald hx hb hK hP 3 0 rfl rfl (zf_in (by omega) (by omega)) dX8_holds_46 ?_
          refine lv_topi (fun x_14 ex_14 => ?_)
          have bx_14 : -1 ≤ x_14.toInt ∧ x_14.toInt ≤ 7 := by rw [ex_14]; exact hp_gsh _
          exact W.iret (v := x_14) hx hb hr (fun t ht hW => ⟨x_14, rfl, (show ((s_.toInt < 0 ∨ 7 < s_.toInt) ∧ (x_14 : Int32).toInt = -1) ∨ ((0 ≤ s_.toInt ∧ s_.toInt ≤ 7) ∧ (x_14 : Int32).toInt = zHe (ghe s_.toNatClampNeg).toInt (gso s_.toNatClampNeg).toInt (gsh s_.toNatClampNeg).toInt) from by ((try rw [← ex_10]); (try rw [← ex_14]); unfold zHe; first | (left; omega) | (right; refine ⟨by omega, ?_⟩; (repeat (first | rw [if_pos (by omega)] | rw [if_neg (by omega)])) <;> omega))), ht⟩) (fun q hq => by cases hq) dX8_holds_47
        · have fc_13 : x_10.toInt = 1 := zf_eq c_13 rfl (by decide)
          refine lv_bipush (v := 100) hx hb dX8_holds_29 (by decide) ?_
          refine lv_aload_n hx hb dX8_holds_31 rfl (lv_at hl 0 rfl) ?_
          refine va_get (D := D) (ci := 8) (v := .ref mso) (C := RX8) (T := TX8) (N := 38) hx hb hts hi_X8_holds_8 hown hK hP 0 rfl rfl 18 (by decide) (hts (.fieldLink RX8 50 "TheLiningsInItModel" "sort" "[I") (List.mem_of_getElem? (i := 2) rfl)) (fun _ h9 => h9) rfl dX8_holds_32 ?_
          refine lv_iload_n hx hb dX8_holds_35 rfl (lv_at hl 1 rfl) ?_
          refine va_iald hx hb hK hP 2 0 rfl rfl (zf_in (by omega) (by omega)) dX8_holds_36 ?_
          refine lv_topi (fun x_15 ex_15 => ?_)
          have bx_15 : 0 ≤ x_15.toInt ∧ x_15.toInt ≤ 3 := by rw [ex_15]; exact hp_gso _
          refine lv_iadd hx hb dX8_holds_37 ?_
          refine lv_topi (fun x_16 ex_16 => ?_)
          have qx_16 : x_16.toInt = 100 + x_15.toInt := by rw [ex_16]; exact zf_add (by decide) rfl (by omega) (by omega)
          refine lv_goto (tgt := 47) hx hb dX8_holds_38 (by decide) ?_
          exact W.iret (v := x_16) hx hb hr (fun t ht hW => ⟨x_16, rfl, (show ((s_.toInt < 0 ∨ 7 < s_.toInt) ∧ (x_16 : Int32).toInt = -1) ∨ ((0 ≤ s_.toInt ∧ s_.toInt ≤ 7) ∧ (x_16 : Int32).toInt = zHe (ghe s_.toNatClampNeg).toInt (gso s_.toNatClampNeg).toInt (gsh s_.toNatClampNeg).toInt) from by ((try rw [← ex_10]); (try rw [← ex_15]); unfold zHe; first | (left; omega) | (right; refine ⟨by omega, ?_⟩; (repeat (first | rw [if_pos (by omega)] | rw [if_neg (by omega)])) <;> omega))), ht⟩) (fun q hq => by cases hq) dX8_holds_47
      · have fc_11 : x_10.toInt = 0 := zf_eq c_11 rfl (by decide)
        refine lv_iconst (v := (-1)) hx hb dX8_holds_17 (by decide) ?_
        exact W.iret (v := (-1)) hx hb hr (fun t ht hW => ⟨(-1), rfl, (show ((s_.toInt < 0 ∨ 7 < s_.toInt) ∧ ((-1) : Int32).toInt = -1) ∨ ((0 ≤ s_.toInt ∧ s_.toInt ≤ 7) ∧ ((-1) : Int32).toInt = zHe (ghe s_.toNatClampNeg).toInt (gso s_.toNatClampNeg).toInt (gsh s_.toNatClampNeg).toInt) from by (have k9 : ((-1) : Int32).toInt = -1 := (by decide); (try rw [← ex_10]); unfold zHe; first | (left; omega) | (right; refine ⟨by omega, ?_⟩; (repeat (first | rw [if_pos (by omega)] | rw [if_neg (by omega)])) <;> omega))), ht⟩) (fun q hq => by cases hq) dX8_holds_18
set_option maxHeartbeats 4000000 in
set_option maxRecDepth 100000 in
theorem c_F_M_pull (l : Launch) (D : va_G) (cI cJ cZ cP cS : ClassId) (po : zPool) (m0 mrf mki mpa mta mla msl mco mhe mso msi msh mce mca mwo mnu mte mwa mke mma mth mtr : Nat) (npu nte nat_ nde nto nse nhu nga nsd nfa nba npl nen nnu nwr nra nik : Int32) (grf gki gpa gta : Nat → Int32) (ki a_ ta : Int32) (hy0 : 0 ≤ npu.toInt) (hy1 : npu.toInt ≤ 8) (hy2 : 4 ≤ nte.toInt) (hy3 : nte.toInt ≤ 40) (hy4 : 0 ≤ nat_.toInt) (hy5 : nat_.toInt ≤ 40) (hy6 : 0 ≤ nde.toInt) (hy7 : nde.toInt ≤ 24) (hy8 : 0 ≤ nhu.toInt) (hy9 : nhu.toInt ≤ 9) (hy10 : 0 ≤ nra.toInt) (hy11 : nra.toInt ≤ 2000) (hy12 : 0 ≤ nik.toInt) (hy13 : nik.toInt ≤ 1) (hp_gki : zRg gki (0) 6) (hp_gpa : zRg gpa (0) 9) (hp_gta : zRg gta (0) 60) (hpz : Nat) : Met l yX8_pull wsX8_pull ({ frames := 1, cells := 0, slots := 0, locals := 23 }) (va_Pc [.ref m0, .int ki, .int a_, .int ta] (zW D (zKT cI cJ cZ cP cS) po [(zMO m0 npu nte nat_ nde nto nse nhu nga nsd nfa mrf mki mpa mta mla msl mco mhe mso msi msh mce mca mwo mnu mte nba npl nen nnu nwr mwa mke mma mth mtr nra nik), (mrf, .inl (cI, 8, .inl grf)), (mki, .inl (cI, 8, .inl gki)), (mpa, .inl (cI, 8, .inl gpa)), (mta, .inl (cI, 8, .inl gta))] hpz)) (va_Qi (fun (r : Int32) (u : (Int32) × (Nat → Int32) × (Nat → Int32) × (Nat → Int32) × (Nat → Int32)) => (0 ≤ u.1.toInt ∧ u.1.toInt ≤ 8) ∧ zRg u.2.2.1 (0) 6 ∧ zRg u.2.2.2.1 (0) 9 ∧ zRg u.2.2.2.2 (0) 60 ∧ (r.toInt = zPulR ki.toInt a_.toInt ta.toInt npu.toInt) ∧ ((0 ≤ r.toInt → u.1.toInt = npu.toInt + 1) ∧ (r.toInt < 0 → u.1.toInt = npu.toInt)) ∧ ((r.toInt < 0 ∧ u.2.2.1 = gki ∧ u.2.2.2.1 = gpa ∧ u.2.2.2.2 = gta) ∨ (0 ≤ r.toInt ∧ u.2.2.1 = upd gki npu.toNatClampNeg ki ∧ u.2.2.2.1 = upd gpa npu.toNatClampNeg a_ ∧ u.2.2.2.2 = upd gta npu.toNatClampNeg ta)) ∧ (True)) (zB D [(zMO m0 npu nte nat_ nde nto nse nhu nga nsd nfa mrf mki mpa mta mla msl mco mhe mso msi msh mce mca mwo mnu mte nba npl nen nnu nwr mwa mke mma mth mtr nra nik), (mrf, .inl (cI, 8, .inl grf)), (mki, .inl (cI, 8, .inl gki)), (mpa, .inl (cI, 8, .inl gpa)), (mta, .inl (cI, 8, .inl gta))] hpz (fun (u : (Int32) × (Nat → Int32) × (Nat → Int32) × (Nat → Int32) × (Nat → Int32)) => [(zMO m0 u.1 nte nat_ nde nto nse nhu nga nsd nfa mrf mki mpa mta mla msl mco mhe mso msi msh mce mca mwo mnu mte nba npl nen nnu nwr mwa mke mma mth mtr nra nik), (mrf, .inl (cI, 8, .inl u.2.1)), (mki, .inl (cI, 8, .inl u.2.2.1)), (mpa, .inl (cI, 8, .inl u.2.2.2.1)), (mta, .inl (cI, 8, .inl u.2.2.2.2))])) (va_A [(zMO m0 npu nte nat_ nde nto nse nhu nga nsd nfa mrf mki mpa mta mla msl mco mhe mso msi msh mce mca mwo mnu mte nba npl nen nnu nwr mwa mke mma mth mtr nra nik), (mrf, .inl (cI, 8, .inl grf)), (mki, .inl (cI, 8, .inl gki)), (mpa, .inl (cI, 8, .inl gpa)), (mta, .inl (cI, 8, .inl gta))] hpz)) 0 0 (va_A [(zMO m0 npu nte nat_ nde nto nse nhu nga nsd nfa mrf mki mpa mta mla msl mco mhe mso msi msh mce mca mwo mnu mte nba npl nen nnu nwr mwa mke mma mth mtr nra nik), (mrf, .inl (cI, 8, .inl grf)), (mki, .inl (cI, 8, .inl gki)), (mpa, .inl (cI, 8, .inl gpa)), (mta, .inl (cI, 8, .inl gta))] hpz) := by
  refine Met.ofW (cc := cX8_pull) (maxL := 4) (ret := (some .int)) (by decide) rfl ?_
  intro p e s m args below meth c s₁ B hml hv
  obtain ⟨rfl, hsz, hP, hK, hD0, hN, hZ⟩ := hv
  have hx := B.exec
  have hb := B.bytes
  have hr := B.returns
  have hts := atoms_spec (ws := wsX8_pull) B.pre
  have hown : s.vm.findClass RX8 = some m.cls := findClass_of_methodNamed B.named
  have hlocks := B.notSynchronized
  subst hsz
  have hD := hD0.self (sz := s.heap.size)
  have hA := zA_of hD
  have hl := lv_entry ([.ref m0, .int ki, .int a_, .int ta]) (n := 4) (Nat.le_of_ble_eq_true rfl)
  rw [lg_entry_eq]
  generalize (lg_sl ([.ref m0, .int ki, .int a_, .int ta]) ++ List.replicate (4 - (lg_sl ([.ref m0, .int ki, .int a_, .int ta])).length) Slot.unset).toArray = ls at hl ⊢
  replace hl : lv_has ls 4 [(0, .ref m0), (1, .int ki), (2, .int a_), (3, .int ta)] := hl
  refine zw_begin hP hD (fun H locs hP1 hS => ?_)
  clear hP
  have hP := hP1
  clear hP1
  refine lv_iload_n hx hb dX8_pull_0 rfl (lv_at hl 1 rfl) ?_
  refine lv_if_lt (tgt := 10) hx hb dX8_pull_1 (by decide) (fun c_1 => ?_) (fun c_1 => ?_)
  · have fc_1 : ki.toInt < 0 := zf_lt c_1 rfl (by decide)
    refine lv_aload_n hx hb dX8_pull_10 rfl (lv_at hl 0 rfl) ?_
    refine lv_iconst (v := (-1)) hx hb dX8_pull_11 (by decide) ?_
    skip
    refine zw_V (As := [.int (-1)]) (rest := []) (wr := [(mki, .inl (cI, 8, .inl gki)), (mpa, .inl (cI, 8, .inl gpa)), (mta, .inl (cI, 8, .inl gta))]) ⟨hx, hb, hml, hown, hts⟩ (c_M_no_1 l D cI cJ cZ cP cS po m0 mrf mki mpa mta mla msl mco mhe mso msi msh mce mca mwo mnu mte mwa mke mma mth mtr (npu) (nte) (nat_) (nde) (nto) (nse) (nhu) (nga) (nsd) (nfa) (nba) (npl) (nen) (nnu) (nwr) (nra) (nik) grf hy0 hy1 hy2 hy3 hy4 hy5 hy6 hy7 hy8 hy9 hy10 hy11 hy12 hy13 H.size) (cwV 1 hts gX8_pull_X8_no rfl rfl rfl ⟨rfl, dh_X8_no⟩ ⟨Nat.le_of_ble_eq_true rfl, Nat.le_of_ble_eq_true rfl⟩) hK hN (hZ.kept hS) hP hD hS hA [0, 1] [2, 3, 4] rfl rfl (by decide) (by decide) (by decide) (va_recv (q := (RX8, TX8, 38)) hK hP (ci := 8) (q0 := 0) rfl rfl) rfl hl.1 rfl (Nat.le_of_ble_eq_true rfl) dX8_pull_12 ⟨Nat.le_of_ble_eq_true rfl, Nat.le_of_ble_eq_true rfl⟩ (fun r_2 u_3 H locs hr_2 hP hD hS => ?_)
    obtain ⟨q_4, rfl⟩ : ∃ z, z = u_3 := ⟨_, rfl⟩
    have h9R := zRe (ws' := [(mki, .inl (cI, 8, .inl gki)), (mpa, .inl (cI, 8, .inl gpa)), (mta, .inl (cI, 8, .inl gta)), (zMO m0 npu nte nat_ nde nto nse nhu nga nsd nfa mrf mki mpa mta mla msl mco mhe mso msi msh mce mca mwo mnu mte nba npl nen nnu nwr mwa mke mma mth mtr nra nik), (mrf, .inl (cI, 8, .inl q_4))]) hP hD rfl
    clear hP hD
    obtain ⟨hP, hD⟩ := h9R
    obtain rfl := hr_2
    exact W.iret (v := (-1)) hx hb hr (fun t ht hW => ⟨⟨(-1), (npu, q_4, gki, gpa, gta), rfl, ⟨(show 0 ≤ npu.toInt ∧ npu.toInt ≤ 8 from ⟨hy0, hy1⟩), hp_gki, hp_gpa, hp_gta, (show ((-1) : Int32).toInt = zPulR ki.toInt a_.toInt ta.toInt npu.toInt from by (have k9 : ((-1) : Int32).toInt = -1 := (by decide); unfold zPulR; (repeat (first | rw [if_pos (by omega)] | rw [if_neg (by omega)])) <;> omega)), (show (0 ≤ ((-1) : Int32).toInt → npu.toInt = npu.toInt + 1) ∧ (((-1) : Int32).toInt < 0 → npu.toInt = npu.toInt) from by (have k9 : ((-1) : Int32).toInt = -1 := (by decide); omega)), (show (((-1) : Int32).toInt < 0 ∧ gki = gki ∧ gpa = gpa ∧ gta = gta) ∨ (0 ≤ ((-1) : Int32).toInt ∧ gki = upd gki npu.toNatClampNeg ki ∧ gpa = upd gpa npu.toNatClampNeg a_ ∧ gta = upd gta npu.toNatClampNeg ta) from by (have k9 : ((-1) : Int32).toInt = -1 := (by decide); exact Or.inl ⟨by omega, rfl, rfl, rfl⟩)), trivial⟩, zRet ht hP hD [3, 4, 0, 1, 2] (by decide) rfl⟩, hS.F ht⟩) hS.2.2 dX8_pull_15
  · have fc_1 : 0 ≤ ki.toInt := zf_nlt c_1 rfl (by decide)
    refine lv_iload_n hx hb dX8_pull_4 rfl (lv_at hl 1 rfl) ?_
    refine lv_bipush (v := 6) hx hb dX8_pull_5 (by decide) ?_
    refine lv_icmp_le (tgt := 16) hx hb dX8_pull_7 (by decide) (fun c_5 => ?_) (fun c_5 => ?_)
    · have fc_5 : ki.toInt ≤ 6 := zf_le c_5 rfl (by decide)
      refine lv_iload_n hx hb dX8_pull_16 rfl (lv_at hl 2 rfl) ?_
      refine lv_if_lt (tgt := 37) hx hb dX8_pull_17 (by decide) (fun c_6 => ?_) (fun c_6 => ?_)
      · have fc_6 : a_.toInt < 0 := zf_lt c_6 rfl (by decide)
        refine lv_aload_n hx hb dX8_pull_37 rfl (lv_at hl 0 rfl) ?_
        refine lv_bipush (v := (-6)) hx hb dX8_pull_38 (by decide) ?_
        skip
        refine zw_V (As := [.int (-6)]) (rest := []) (wr := [(mki, .inl (cI, 8, .inl gki)), (mpa, .inl (cI, 8, .inl gpa)), (mta, .inl (cI, 8, .inl gta))]) ⟨hx, hb, hml, hown, hts⟩ (c_M_no_6 l D cI cJ cZ cP cS po m0 mrf mki mpa mta mla msl mco mhe mso msi msh mce mca mwo mnu mte mwa mke mma mth mtr (npu) (nte) (nat_) (nde) (nto) (nse) (nhu) (nga) (nsd) (nfa) (nba) (npl) (nen) (nnu) (nwr) (nra) (nik) grf hy0 hy1 hy2 hy3 hy4 hy5 hy6 hy7 hy8 hy9 hy10 hy11 hy12 hy13 H.size) (cwV 1 hts gX8_pull_X8_no rfl rfl rfl ⟨rfl, dh_X8_no⟩ ⟨Nat.le_of_ble_eq_true rfl, Nat.le_of_ble_eq_true rfl⟩) hK hN (hZ.kept hS) hP hD hS hA [0, 1] [2, 3, 4] rfl rfl (by decide) (by decide) (by decide) (va_recv (q := (RX8, TX8, 38)) hK hP (ci := 8) (q0 := 0) rfl rfl) rfl hl.1 rfl (Nat.le_of_ble_eq_true rfl) dX8_pull_40 ⟨Nat.le_of_ble_eq_true rfl, Nat.le_of_ble_eq_true rfl⟩ (fun r_7 u_8 H locs hr_7 hP hD hS => ?_)
        obtain ⟨q_9, rfl⟩ : ∃ z, z = u_8 := ⟨_, rfl⟩
        have h9R := zRe (ws' := [(mki, .inl (cI, 8, .inl gki)), (mpa, .inl (cI, 8, .inl gpa)), (mta, .inl (cI, 8, .inl gta)), (zMO m0 npu nte nat_ nde nto nse nhu nga nsd nfa mrf mki mpa mta mla msl mco mhe mso msi msh mce mca mwo mnu mte nba npl nen nnu nwr mwa mke mma mth mtr nra nik), (mrf, .inl (cI, 8, .inl q_9))]) hP hD rfl
        clear hP hD
        obtain ⟨hP, hD⟩ := h9R
        obtain rfl := hr_7
        exact W.iret (v := (-6)) hx hb hr (fun t ht hW => ⟨⟨(-6), (npu, q_9, gki, gpa, gta), rfl, ⟨(show 0 ≤ npu.toInt ∧ npu.toInt ≤ 8 from ⟨hy0, hy1⟩), hp_gki, hp_gpa, hp_gta, (show ((-6) : Int32).toInt = zPulR ki.toInt a_.toInt ta.toInt npu.toInt from by (have k9 : ((-6) : Int32).toInt = -6 := (by decide); unfold zPulR; (repeat (first | rw [if_pos (by omega)] | rw [if_neg (by omega)])) <;> omega)), (show (0 ≤ ((-6) : Int32).toInt → npu.toInt = npu.toInt + 1) ∧ (((-6) : Int32).toInt < 0 → npu.toInt = npu.toInt) from by (have k9 : ((-6) : Int32).toInt = -6 := (by decide); omega)), (show (((-6) : Int32).toInt < 0 ∧ gki = gki ∧ gpa = gpa ∧ gta = gta) ∨ (0 ≤ ((-6) : Int32).toInt ∧ gki = upd gki npu.toNatClampNeg ki ∧ gpa = upd gpa npu.toNatClampNeg a_ ∧ gta = upd gta npu.toNatClampNeg ta) from by (have k9 : ((-6) : Int32).toInt = -6 := (by decide); exact Or.inl ⟨by omega, rfl, rfl, rfl⟩)), trivial⟩, zRet ht hP hD [3, 4, 0, 1, 2] (by decide) rfl⟩, hS.F ht⟩) hS.2.2 dX8_pull_43
      · have fc_6 : 0 ≤ a_.toInt := zf_nlt c_6 rfl (by decide)
        refine lv_iload_n hx hb dX8_pull_20 rfl (lv_at hl 2 rfl) ?_
        refine lv_bipush (v := 9) hx hb dX8_pull_21 (by decide) ?_
        refine lv_icmp_gt (tgt := 37) hx hb dX8_pull_23 (by decide) (fun c_10 => ?_) (fun c_10 => ?_)
        · have fc_10 : 9 < a_.toInt := zf_lt c_10 (by decide) rfl
          refine lv_aload_n hx hb dX8_pull_37 rfl (lv_at hl 0 rfl) ?_
          refine lv_bipush (v := (-6)) hx hb dX8_pull_38 (by decide) ?_
          skip
          refine zw_V (As := [.int (-6)]) (rest := []) (wr := [(mki, .inl (cI, 8, .inl gki)), (mpa, .inl (cI, 8, .inl gpa)), (mta, .inl (cI, 8, .inl gta))]) ⟨hx, hb, hml, hown, hts⟩ (c_M_no_6 l D cI cJ cZ cP cS po m0 mrf mki mpa mta mla msl mco mhe mso msi msh mce mca mwo mnu mte mwa mke mma mth mtr (npu) (nte) (nat_) (nde) (nto) (nse) (nhu) (nga) (nsd) (nfa) (nba) (npl) (nen) (nnu) (nwr) (nra) (nik) grf hy0 hy1 hy2 hy3 hy4 hy5 hy6 hy7 hy8 hy9 hy10 hy11 hy12 hy13 H.size) (cwV 1 hts gX8_pull_X8_no rfl rfl rfl ⟨rfl, dh_X8_no⟩ ⟨Nat.le_of_ble_eq_true rfl, Nat.le_of_ble_eq_true rfl⟩) hK hN (hZ.kept hS) hP hD hS hA [0, 1] [2, 3, 4] rfl rfl (by decide) (by decide) (by decide) (va_recv (q := (RX8, TX8, 38)) hK hP (ci := 8) (q0 := 0) rfl rfl) rfl hl.1 rfl (Nat.le_of_ble_eq_true rfl) dX8_pull_40 ⟨Nat.le_of_ble_eq_true rfl, Nat.le_of_ble_eq_true rfl⟩ (fun r_11 u_12 H locs hr_11 hP hD hS => ?_)
          obtain ⟨q_13, rfl⟩ : ∃ z, z = u_12 := ⟨_, rfl⟩
          have h9R := zRe (ws' := [(mki, .inl (cI, 8, .inl gki)), (mpa, .inl (cI, 8, .inl gpa)), (mta, .inl (cI, 8, .inl gta)), (zMO m0 npu nte nat_ nde nto nse nhu nga nsd nfa mrf mki mpa mta mla msl mco mhe mso msi msh mce mca mwo mnu mte nba npl nen nnu nwr mwa mke mma mth mtr nra nik), (mrf, .inl (cI, 8, .inl q_13))]) hP hD rfl
          clear hP hD
          obtain ⟨hP, hD⟩ := h9R
          obtain rfl := hr_11
          exact W.iret (v := (-6)) hx hb hr (fun t ht hW => ⟨⟨(-6), (npu, q_13, gki, gpa, gta), rfl, ⟨(show 0 ≤ npu.toInt ∧ npu.toInt ≤ 8 from ⟨hy0, hy1⟩), hp_gki, hp_gpa, hp_gta, (show ((-6) : Int32).toInt = zPulR ki.toInt a_.toInt ta.toInt npu.toInt from by (have k9 : ((-6) : Int32).toInt = -6 := (by decide); unfold zPulR; (repeat (first | rw [if_pos (by omega)] | rw [if_neg (by omega)])) <;> omega)), (show (0 ≤ ((-6) : Int32).toInt → npu.toInt = npu.toInt + 1) ∧ (((-6) : Int32).toInt < 0 → npu.toInt = npu.toInt) from by (have k9 : ((-6) : Int32).toInt = -6 := (by decide); omega)), (show (((-6) : Int32).toInt < 0 ∧ gki = gki ∧ gpa = gpa ∧ gta = gta) ∨ (0 ≤ ((-6) : Int32).toInt ∧ gki = upd gki npu.toNatClampNeg ki ∧ gpa = upd gpa npu.toNatClampNeg a_ ∧ gta = upd gta npu.toNatClampNeg ta) from by (have k9 : ((-6) : Int32).toInt = -6 := (by decide); exact Or.inl ⟨by omega, rfl, rfl, rfl⟩)), trivial⟩, zRet ht hP hD [3, 4, 0, 1, 2] (by decide) rfl⟩, hS.F ht⟩) hS.2.2 dX8_pull_43
        · have fc_10 : a_.toInt ≤ 9 := zf_nlt c_10 (by decide) rfl
          refine lv_iload_n hx hb dX8_pull_26 rfl (lv_at hl 3 rfl) ?_
          refine lv_iconst (v := 1) hx hb dX8_pull_27 (by decide) ?_
          refine lv_icmp_lt (tgt := 37) hx hb dX8_pull_28 (by decide) (fun c_14 => ?_) (fun c_14 => ?_)
          · have fc_14 : ta.toInt < 1 := zf_lt c_14 rfl (by decide)
            refine lv_aload_n hx hb dX8_pull_37 rfl (lv_at hl 0 rfl) ?_
            refine lv_bipush (v := (-6)) hx hb dX8_pull_38 (by decide) ?_
            skip
            refine zw_V (As := [.int (-6)]) (rest := []) (wr := [(mki, .inl (cI, 8, .inl gki)), (mpa, .inl (cI, 8, .inl gpa)), (mta, .inl (cI, 8, .inl gta))]) ⟨hx, hb, hml, hown, hts⟩ (c_M_no_6 l D cI cJ cZ cP cS po m0 mrf mki mpa mta mla msl mco mhe mso msi msh mce mca mwo mnu mte mwa mke mma mth mtr (npu) (nte) (nat_) (nde) (nto) (nse) (nhu) (nga) (nsd) (nfa) (nba) (npl) (nen) (nnu) (nwr) (nra) (nik) grf hy0 hy1 hy2 hy3 hy4 hy5 hy6 hy7 hy8 hy9 hy10 hy11 hy12 hy13 H.size) (cwV 1 hts gX8_pull_X8_no rfl rfl rfl ⟨rfl, dh_X8_no⟩ ⟨Nat.le_of_ble_eq_true rfl, Nat.le_of_ble_eq_true rfl⟩) hK hN (hZ.kept hS) hP hD hS hA [0, 1] [2, 3, 4] rfl rfl (by decide) (by decide) (by decide) (va_recv (q := (RX8, TX8, 38)) hK hP (ci := 8) (q0 := 0) rfl rfl) rfl hl.1 rfl (Nat.le_of_ble_eq_true rfl) dX8_pull_40 ⟨Nat.le_of_ble_eq_true rfl, Nat.le_of_ble_eq_true rfl⟩ (fun r_15 u_16 H locs hr_15 hP hD hS => ?_)
            obtain ⟨q_17, rfl⟩ : ∃ z, z = u_16 := ⟨_, rfl⟩
            have h9R := zRe (ws' := [(mki, .inl (cI, 8, .inl gki)), (mpa, .inl (cI, 8, .inl gpa)), (mta, .inl (cI, 8, .inl gta)), (zMO m0 npu nte nat_ nde nto nse nhu nga nsd nfa mrf mki mpa mta mla msl mco mhe mso msi msh mce mca mwo mnu mte nba npl nen nnu nwr mwa mke mma mth mtr nra nik), (mrf, .inl (cI, 8, .inl q_17))]) hP hD rfl
            clear hP hD
            obtain ⟨hP, hD⟩ := h9R
            obtain rfl := hr_15
            exact W.iret (v := (-6)) hx hb hr (fun t ht hW => ⟨⟨(-6), (npu, q_17, gki, gpa, gta), rfl, ⟨(show 0 ≤ npu.toInt ∧ npu.toInt ≤ 8 from ⟨hy0, hy1⟩), hp_gki, hp_gpa, hp_gta, (show ((-6) : Int32).toInt = zPulR ki.toInt a_.toInt ta.toInt npu.toInt from by (have k9 : ((-6) : Int32).toInt = -6 := (by decide); unfold zPulR; (repeat (first | rw [if_pos (by omega)] | rw [if_neg (by omega)])) <;> omega)), (show (0 ≤ ((-6) : Int32).toInt → npu.toInt = npu.toInt + 1) ∧ (((-6) : Int32).toInt < 0 → npu.toInt = npu.toInt) from by (have k9 : ((-6) : Int32).toInt = -6 := (by decide); omega)), (show (((-6) : Int32).toInt < 0 ∧ gki = gki ∧ gpa = gpa ∧ gta = gta) ∨ (0 ≤ ((-6) : Int32).toInt ∧ gki = upd gki npu.toNatClampNeg ki ∧ gpa = upd gpa npu.toNatClampNeg a_ ∧ gta = upd gta npu.toNatClampNeg ta) from by (have k9 : ((-6) : Int32).toInt = -6 := (by decide); exact Or.inl ⟨by omega, rfl, rfl, rfl⟩)), trivial⟩, zRet ht hP hD [3, 4, 0, 1, 2] (by decide) rfl⟩, hS.F ht⟩) hS.2.2 dX8_pull_43
          · have fc_14 : 1 ≤ ta.toInt := zf_nlt c_14 rfl (by decide)
            refine lv_iload_n hx hb dX8_pull_31 rfl (lv_at hl 3 rfl) ?_
            refine lv_bipush (v := 60) hx hb dX8_pull_32 (by decide) ?_
            refine lv_icmp_le (tgt := 44) hx hb dX8_pull_34 (by decide) (fun c_18 => ?_) (fun c_18 => ?_)
            · have fc_18 : ta.toInt ≤ 60 := zf_le c_18 rfl (by decide)
              refine lv_aload_n hx hb dX8_pull_44 rfl (lv_at hl 0 rfl) ?_
              refine va_get (D := D) (ci := 8) (v := .int npu) (C := RX8) (T := TX8) (N := 38) hx hb hts hi_X8_pull_8 hown hK hP 0 rfl rfl 0 (by decide) (hts (.fieldLink RX8 90 "TheLiningsInItModel" "pulls" "I") (List.mem_of_getElem? (i := 1) rfl)) (fun _ h9 => h9) rfl dX8_pull_45 ?_
              refine lv_bipush (v := 8) hx hb dX8_pull_48 (by decide) ?_
              refine lv_icmp_ne (tgt := 62) hx hb dX8_pull_50 (by decide) (fun c_19 => ?_) (fun c_19 => ?_)
              · have fc_19 : npu.toInt ≠ 8 := zf_ne c_19 rfl (by decide)
                refine lv_aload_n hx hb dX8_pull_62 rfl (lv_at hl 0 rfl) ?_
                refine lv_iload_n hx hb dX8_pull_63 rfl (lv_at hl 1 rfl) ?_
                refine lv_iload_n hx hb dX8_pull_64 rfl (lv_at hl 2 rfl) ?_
                refine lv_iload_n hx hb dX8_pull_65 rfl (lv_at hl 3 rfl) ?_
                skip
                refine zw_V (As := [.int ki, .int a_, .int ta]) (rest := []) (wr := [(mrf, .inl (cI, 8, .inl grf))]) ⟨hx, hb, hml, hown, hts⟩ (c_F_M_addsPull l D cI cJ cZ cP cS po m0 mrf mki mpa mta mla msl mco mhe mso msi msh mce mca mwo mnu mte mwa mke mma mth mtr (npu) (nte) (nat_) (nde) (nto) (nse) (nhu) (nga) (nsd) (nfa) (nba) (npl) (nen) (nnu) (nwr) (nra) (nik) gki gpa gta (ki) (a_) (ta) hy0 hy1 hy2 hy3 hy4 hy5 hy6 hy7 hy8 hy9 hy10 hy11 hy12 hy13 (by omega) (by omega) (by omega) (by omega) (by omega) (by omega) hy0 (by omega) hp_gki hp_gpa hp_gta H.size) (cwV 3 hts gX8_pull_X8_addsPull rfl rfl rfl ⟨rfl, dh_X8_addsPull⟩ ⟨Nat.le_of_ble_eq_true rfl, Nat.le_of_ble_eq_true rfl⟩) hK hN (hZ.kept hS) hP hD hS hA [0, 2, 3, 4] [1] rfl rfl (by decide) (by decide) (by decide) (va_recv (q := (RX8, TX8, 38)) hK hP (ci := 8) (q0 := 0) rfl rfl) rfl hl.1 rfl (Nat.le_of_ble_eq_true rfl) dX8_pull_66 ⟨Nat.le_of_ble_eq_true rfl, Nat.le_of_ble_eq_true rfl⟩ (fun r_20 u_21 H locs hr_20 hP hD hS => ?_)
                obtain ⟨q_22, q_23, q_24, q_25⟩ := u_21
                try dsimp only at hr_20
                obtain ⟨hbq_22, hpq_23, hpq_24, hpq_25, hsr_20_0, hsr_20_1, hsr_20_2, hr_20⟩ := hr_20
                have h9R := zRe (ws' := [(mrf, .inl (cI, 8, .inl grf)), (zMO m0 q_22 nte nat_ nde nto nse nhu nga nsd nfa mrf mki mpa mta mla msl mco mhe mso msi msh mce mca mwo mnu mte nba npl nen nnu nwr mwa mke mma mth mtr nra nik), (mki, .inl (cI, 8, .inl q_23)), (mpa, .inl (cI, 8, .inl q_24)), (mta, .inl (cI, 8, .inl q_25))]) hP hD rfl
                clear hP hD
                obtain ⟨hP, hD⟩ := h9R
                obtain ⟨g_26, g_27⟩ := hr_20
                exact W.iret (v := r_20) hx hb hr (fun t ht hW => ⟨⟨r_20, (q_22, grf, q_23, q_24, q_25), rfl, ⟨(show 0 ≤ q_22.toInt ∧ q_22.toInt ≤ 8 from hbq_22), hpq_23, hpq_24, hpq_25, (show (r_20 : Int32).toInt = zPulR ki.toInt a_.toInt ta.toInt npu.toInt from by (unfold zPulR; (repeat (first | rw [if_pos (by omega)] | rw [if_neg (by omega)])) <;> omega)), (show (0 ≤ (r_20 : Int32).toInt → q_22.toInt = npu.toInt + 1) ∧ ((r_20 : Int32).toInt < 0 → q_22.toInt = npu.toInt) from by (omega)), (show ((r_20 : Int32).toInt < 0 ∧ q_23 = gki ∧ q_24 = gpa ∧ q_25 = gta) ∨ (0 ≤ (r_20 : Int32).toInt ∧ q_23 = upd gki npu.toNatClampNeg ki ∧ q_24 = upd gpa npu.toNatClampNeg a_ ∧ q_25 = upd gta npu.toNatClampNeg ta) from by (exact Or.inr ⟨by omega, hsr_20_2⟩)), trivial⟩, zRet ht hP hD [1, 0, 2, 3, 4] (by decide) rfl⟩, hS.F ht⟩) hS.2.2 dX8_pull_69
              · have fc_19 : npu.toInt = 8 := zf_eq c_19 rfl (by decide)
                refine lv_aload_n hx hb dX8_pull_53 rfl (lv_at hl 0 rfl) ?_
                refine lv_bipush (v := (-7)) hx hb dX8_pull_54 (by decide) ?_
                skip
                refine zw_V (As := [.int (-7)]) (rest := []) (wr := [(mki, .inl (cI, 8, .inl gki)), (mpa, .inl (cI, 8, .inl gpa)), (mta, .inl (cI, 8, .inl gta))]) ⟨hx, hb, hml, hown, hts⟩ (c_M_no_7 l D cI cJ cZ cP cS po m0 mrf mki mpa mta mla msl mco mhe mso msi msh mce mca mwo mnu mte mwa mke mma mth mtr (npu) (nte) (nat_) (nde) (nto) (nse) (nhu) (nga) (nsd) (nfa) (nba) (npl) (nen) (nnu) (nwr) (nra) (nik) grf hy0 hy1 hy2 hy3 hy4 hy5 hy6 hy7 hy8 hy9 hy10 hy11 hy12 hy13 H.size) (cwV 1 hts gX8_pull_X8_no rfl rfl rfl ⟨rfl, dh_X8_no⟩ ⟨Nat.le_of_ble_eq_true rfl, Nat.le_of_ble_eq_true rfl⟩) hK hN (hZ.kept hS) hP hD hS hA [0, 1] [2, 3, 4] rfl rfl (by decide) (by decide) (by decide) (va_recv (q := (RX8, TX8, 38)) hK hP (ci := 8) (q0 := 0) rfl rfl) rfl hl.1 rfl (Nat.le_of_ble_eq_true rfl) dX8_pull_56 ⟨Nat.le_of_ble_eq_true rfl, Nat.le_of_ble_eq_true rfl⟩ (fun r_28 u_29 H locs hr_28 hP hD hS => ?_)
                obtain ⟨q_30, rfl⟩ : ∃ z, z = u_29 := ⟨_, rfl⟩
                have h9R := zRe (ws' := [(mki, .inl (cI, 8, .inl gki)), (mpa, .inl (cI, 8, .inl gpa)), (mta, .inl (cI, 8, .inl gta)), (zMO m0 npu nte nat_ nde nto nse nhu nga nsd nfa mrf mki mpa mta mla msl mco mhe mso msi msh mce mca mwo mnu mte nba npl nen nnu nwr mwa mke mma mth mtr nra nik), (mrf, .inl (cI, 8, .inl q_30))]) hP hD rfl
                clear hP hD
                obtain ⟨hP, hD⟩ := h9R
                obtain rfl := hr_28
                refine lv_goto (tgt := 69) hx hb dX8_pull_59 (by decide) ?_
                exact W.iret (v := (-7)) hx hb hr (fun t ht hW => ⟨⟨(-7), (npu, q_30, gki, gpa, gta), rfl, ⟨(show 0 ≤ npu.toInt ∧ npu.toInt ≤ 8 from ⟨hy0, hy1⟩), hp_gki, hp_gpa, hp_gta, (show ((-7) : Int32).toInt = zPulR ki.toInt a_.toInt ta.toInt npu.toInt from by (have k9 : ((-7) : Int32).toInt = -7 := (by decide); unfold zPulR; (repeat (first | rw [if_pos (by omega)] | rw [if_neg (by omega)])) <;> omega)), (show (0 ≤ ((-7) : Int32).toInt → npu.toInt = npu.toInt + 1) ∧ (((-7) : Int32).toInt < 0 → npu.toInt = npu.toInt) from by (have k9 : ((-7) : Int32).toInt = -7 := (by decide); omega)), (show (((-7) : Int32).toInt < 0 ∧ gki = gki ∧ gpa = gpa ∧ gta = gta) ∨ (0 ≤ ((-7) : Int32).toInt ∧ gki = upd gki npu.toNatClampNeg ki ∧ gpa = upd gpa npu.toNatClampNeg a_ ∧ gta = upd gta npu.toNatClampNeg ta) from by (have k9 : ((-7) : Int32).toInt = -7 := (by decide); exact Or.inl ⟨by omega, rfl, rfl, rfl⟩)), trivial⟩, zRet ht hP hD [3, 4, 0, 1, 2] (by decide) rfl⟩, hS.F ht⟩) hS.2.2 dX8_pull_69
            · have fc_18 : 60 < ta.toInt := zf_nle c_18 rfl (by decide)
              refine lv_aload_n hx hb dX8_pull_37 rfl (lv_at hl 0 rfl) ?_
              refine lv_bipush (v := (-6)) hx hb dX8_pull_38 (by decide) ?_
              skip
              refine zw_V (As := [.int (-6)]) (rest := []) (wr := [(mki, .inl (cI, 8, .inl gki)), (mpa, .inl (cI, 8, .inl gpa)), (mta, .inl (cI, 8, .inl gta))]) ⟨hx, hb, hml, hown, hts⟩ (c_M_no_6 l D cI cJ cZ cP cS po m0 mrf mki mpa mta mla msl mco mhe mso msi msh mce mca mwo mnu mte mwa mke mma mth mtr (npu) (nte) (nat_) (nde) (nto) (nse) (nhu) (nga) (nsd) (nfa) (nba) (npl) (nen) (nnu) (nwr) (nra) (nik) grf hy0 hy1 hy2 hy3 hy4 hy5 hy6 hy7 hy8 hy9 hy10 hy11 hy12 hy13 H.size) (cwV 1 hts gX8_pull_X8_no rfl rfl rfl ⟨rfl, dh_X8_no⟩ ⟨Nat.le_of_ble_eq_true rfl, Nat.le_of_ble_eq_true rfl⟩) hK hN (hZ.kept hS) hP hD hS hA [0, 1] [2, 3, 4] rfl rfl (by decide) (by decide) (by decide) (va_recv (q := (RX8, TX8, 38)) hK hP (ci := 8) (q0 := 0) rfl rfl) rfl hl.1 rfl (Nat.le_of_ble_eq_true rfl) dX8_pull_40 ⟨Nat.le_of_ble_eq_true rfl, Nat.le_of_ble_eq_true rfl⟩ (fun r_31 u_32 H locs hr_31 hP hD hS => ?_)
              obtain ⟨q_33, rfl⟩ : ∃ z, z = u_32 := ⟨_, rfl⟩
              have h9R := zRe (ws' := [(mki, .inl (cI, 8, .inl gki)), (mpa, .inl (cI, 8, .inl gpa)), (mta, .inl (cI, 8, .inl gta)), (zMO m0 npu nte nat_ nde nto nse nhu nga nsd nfa mrf mki mpa mta mla msl mco mhe mso msi msh mce mca mwo mnu mte nba npl nen nnu nwr mwa mke mma mth mtr nra nik), (mrf, .inl (cI, 8, .inl q_33))]) hP hD rfl
              clear hP hD
              obtain ⟨hP, hD⟩ := h9R
              obtain rfl := hr_31
              exact W.iret (v := (-6)) hx hb hr (fun t ht hW => ⟨⟨(-6), (npu, q_33, gki, gpa, gta), rfl, ⟨(show 0 ≤ npu.toInt ∧ npu.toInt ≤ 8 from ⟨hy0, hy1⟩), hp_gki, hp_gpa, hp_gta, (show ((-6) : Int32).toInt = zPulR ki.toInt a_.toInt ta.toInt npu.toInt from by (have k9 : ((-6) : Int32).toInt = -6 := (by decide); unfold zPulR; (repeat (first | rw [if_pos (by omega)] | rw [if_neg (by omega)])) <;> omega)), (show (0 ≤ ((-6) : Int32).toInt → npu.toInt = npu.toInt + 1) ∧ (((-6) : Int32).toInt < 0 → npu.toInt = npu.toInt) from by (have k9 : ((-6) : Int32).toInt = -6 := (by decide); omega)), (show (((-6) : Int32).toInt < 0 ∧ gki = gki ∧ gpa = gpa ∧ gta = gta) ∨ (0 ≤ ((-6) : Int32).toInt ∧ gki = upd gki npu.toNatClampNeg ki ∧ gpa = upd gpa npu.toNatClampNeg a_ ∧ gta = upd gta npu.toNatClampNeg ta) from by (have k9 : ((-6) : Int32).toInt = -6 := (by decide); exact Or.inl ⟨by omega, rfl, rfl, rfl⟩)), trivial⟩, zRet ht hP hD [3, 4, 0, 1, 2] (by decide) rfl⟩, hS.F ht⟩) hS.2.2 dX8_pull_43
    · have fc_5 : 6 < ki.toInt := zf_nle c_5 rfl (by decide)
      refine lv_aload_n hx hb dX8_pull_10 rfl (lv_at hl 0 rfl) ?_
      refine lv_iconst (v := (-1)) hx hb dX8_pull_11 (by decide) ?_
      skip
      refine zw_V (As := [.int (-1)]) (rest := []) (wr := [(mki, .inl (cI, 8, .inl gki)), (mpa, .inl (cI, 8, .inl gpa)), (mta, .inl (cI, 8, .inl gta))]) ⟨hx, hb, hml, hown, hts⟩ (c_M_no_1 l D cI cJ cZ cP cS po m0 mrf mki mpa mta mla msl mco mhe mso msi msh mce mca mwo mnu mte mwa mke mma mth mtr (npu) (nte) (nat_) (nde) (nto) (nse) (nhu) (nga) (nsd) (nfa) (nba) (npl) (nen) (nnu) (nwr) (nra) (nik) grf hy0 hy1 hy2 hy3 hy4 hy5 hy6 hy7 hy8 hy9 hy10 hy11 hy12 hy13 H.size) (cwV 1 hts gX8_pull_X8_no rfl rfl rfl ⟨rfl, dh_X8_no⟩ ⟨Nat.le_of_ble_eq_true rfl, Nat.le_of_ble_eq_true rfl⟩) hK hN (hZ.kept hS) hP hD hS hA [0, 1] [2, 3, 4] rfl rfl (by decide) (by decide) (by decide) (va_recv (q := (RX8, TX8, 38)) hK hP (ci := 8) (q0 := 0) rfl rfl) rfl hl.1 rfl (Nat.le_of_ble_eq_true rfl) dX8_pull_12 ⟨Nat.le_of_ble_eq_true rfl, Nat.le_of_ble_eq_true rfl⟩ (fun r_34 u_35 H locs hr_34 hP hD hS => ?_)
      obtain ⟨q_36, rfl⟩ : ∃ z, z = u_35 := ⟨_, rfl⟩
      have h9R := zRe (ws' := [(mki, .inl (cI, 8, .inl gki)), (mpa, .inl (cI, 8, .inl gpa)), (mta, .inl (cI, 8, .inl gta)), (zMO m0 npu nte nat_ nde nto nse nhu nga nsd nfa mrf mki mpa mta mla msl mco mhe mso msi msh mce mca mwo mnu mte nba npl nen nnu nwr mwa mke mma mth mtr nra nik), (mrf, .inl (cI, 8, .inl q_36))]) hP hD rfl
      clear hP hD
      obtain ⟨hP, hD⟩ := h9R
      obtain rfl := hr_34
      exact W.iret (v := (-1)) hx hb hr (fun t ht hW => ⟨⟨(-1), (npu, q_36, gki, gpa, gta), rfl, ⟨(show 0 ≤ npu.toInt ∧ npu.toInt ≤ 8 from ⟨hy0, hy1⟩), hp_gki, hp_gpa, hp_gta, (show ((-1) : Int32).toInt = zPulR ki.toInt a_.toInt ta.toInt npu.toInt from by (have k9 : ((-1) : Int32).toInt = -1 := (by decide); unfold zPulR; (repeat (first | rw [if_pos (by omega)] | rw [if_neg (by omega)])) <;> omega)), (show (0 ≤ ((-1) : Int32).toInt → npu.toInt = npu.toInt + 1) ∧ (((-1) : Int32).toInt < 0 → npu.toInt = npu.toInt) from by (have k9 : ((-1) : Int32).toInt = -1 := (by decide); omega)), (show (((-1) : Int32).toInt < 0 ∧ gki = gki ∧ gpa = gpa ∧ gta = gta) ∨ (0 ≤ ((-1) : Int32).toInt ∧ gki = upd gki npu.toNatClampNeg ki ∧ gpa = upd gpa npu.toNatClampNeg a_ ∧ gta = upd gta npu.toNatClampNeg ta) from by (have k9 : ((-1) : Int32).toInt = -1 := (by decide); exact Or.inl ⟨by omega, rfl, rfl, rfl⟩)), trivial⟩, zRet ht hP hD [3, 4, 0, 1, 2] (by decide) rfl⟩, hS.F ht⟩) hS.2.2 dX8_pull_15
set_option maxHeartbeats 4000000 in
set_option maxRecDepth 100000 in
theorem c_F_M_teeth (l : Launch) (D : va_G) (cI cJ cZ cP cS : ClassId) (po : zPool) (m0 mrf mki mpa mta mla msl mco mhe mso msi msh mce mca mwo mnu mte mwa mke mma mth mtr : Nat) (npu nte nat_ nde nto nse nhu nga nsd nfa nba npl nen nnu nwr nra nik : Int32) (grf gla gsl : Nat → Int32) (n : Int32) (hy0 : 0 ≤ npu.toInt) (hy1 : npu.toInt ≤ 8) (hy2 : 4 ≤ nte.toInt) (hy3 : nte.toInt ≤ 40) (hy4 : 0 ≤ nat_.toInt) (hy5 : nat_.toInt ≤ 40) (hy6 : 0 ≤ nde.toInt) (hy7 : nde.toInt ≤ 24) (hy8 : 0 ≤ nhu.toInt) (hy9 : nhu.toInt ≤ 9) (hy10 : 0 ≤ nra.toInt) (hy11 : nra.toInt ≤ 2000) (hy12 : 0 ≤ nik.toInt) (hy13 : nik.toInt ≤ 1) (hp_gla : zRg gla (0) 1) (hp_gsl : zRg gsl (0) 9) (hpz : Nat) : Met l yX8_teeth wsX8_teeth ({ frames := 1, cells := 0, slots := 0, locals := 22 }) (va_Pc [.ref m0, .int n] (zW D (zKT cI cJ cZ cP cS) po [(zMO m0 npu nte nat_ nde nto nse nhu nga nsd nfa mrf mki mpa mta mla msl mco mhe mso msi msh mce mca mwo mnu mte nba npl nen nnu nwr mwa mke mma mth mtr nra nik), (mrf, .inl (cI, 8, .inl grf)), (mla, .inl (cI, 40, .inl gla)), (msl, .inl (cI, 40, .inl gsl))] hpz)) (va_Qi (fun (r : Int32) (u : (Int32) × (Int32) × (Nat → Int32) × (Nat → Int32) × (Nat → Int32)) => (4 ≤ u.1.toInt ∧ u.1.toInt ≤ 40) ∧ (0 ≤ u.2.1.toInt ∧ u.2.1.toInt ≤ 40) ∧ zRg u.2.2.2.1 (0) 1 ∧ zRg u.2.2.2.2 (0) 9 ∧ (((4 ≤ n.toInt ∧ n.toInt ≤ 40) ∧ r.toInt = nte.toInt ∧ u.1.toInt = n.toInt) ∨ (¬ (4 ≤ n.toInt ∧ n.toInt ≤ 40) ∧ r.toInt = -6 ∧ u.1.toInt = nte.toInt)) ∧ (((4 ≤ n.toInt ∧ n.toInt ≤ 40) ∧ (∀ j : Nat, j < 40 → u.2.2.2.1 j = 0) ∧ (∀ j : Nat, j < 40 → u.2.2.2.2 j = 0) ∧ u.2.1.toInt = 0) ∨ (¬ (4 ≤ n.toInt ∧ n.toInt ≤ 40) ∧ u.2.2.2.1 = gla ∧ u.2.2.2.2 = gsl ∧ u.2.1 = nat_)) ∧ (True)) (zB D [(zMO m0 npu nte nat_ nde nto nse nhu nga nsd nfa mrf mki mpa mta mla msl mco mhe mso msi msh mce mca mwo mnu mte nba npl nen nnu nwr mwa mke mma mth mtr nra nik), (mrf, .inl (cI, 8, .inl grf)), (mla, .inl (cI, 40, .inl gla)), (msl, .inl (cI, 40, .inl gsl))] hpz (fun (u : (Int32) × (Int32) × (Nat → Int32) × (Nat → Int32) × (Nat → Int32)) => [(zMO m0 npu u.1 u.2.1 nde nto nse nhu nga nsd nfa mrf mki mpa mta mla msl mco mhe mso msi msh mce mca mwo mnu mte nba npl nen nnu nwr mwa mke mma mth mtr nra nik), (mrf, .inl (cI, 8, .inl u.2.2.1)), (mla, .inl (cI, 40, .inl u.2.2.2.1)), (msl, .inl (cI, 40, .inl u.2.2.2.2))])) (va_A [(zMO m0 npu nte nat_ nde nto nse nhu nga nsd nfa mrf mki mpa mta mla msl mco mhe mso msi msh mce mca mwo mnu mte nba npl nen nnu nwr mwa mke mma mth mtr nra nik), (mrf, .inl (cI, 8, .inl grf)), (mla, .inl (cI, 40, .inl gla)), (msl, .inl (cI, 40, .inl gsl))] hpz)) 0 0 (va_A [(zMO m0 npu nte nat_ nde nto nse nhu nga nsd nfa mrf mki mpa mta mla msl mco mhe mso msi msh mce mca mwo mnu mte nba npl nen nnu nwr mwa mke mma mth mtr nra nik), (mrf, .inl (cI, 8, .inl grf)), (mla, .inl (cI, 40, .inl gla)), (msl, .inl (cI, 40, .inl gsl))] hpz) := by
  refine Met.ofW (cc := cX8_teeth) (maxL := 3) (ret := (some .int)) (by decide) rfl ?_
  intro p e s m args below meth c s₁ B hml hv
  obtain ⟨rfl, hsz, hP, hK, hD0, hN, hZ⟩ := hv
  have hx := B.exec
  have hb := B.bytes
  have hr := B.returns
  have hts := atoms_spec (ws := wsX8_teeth) B.pre
  have hown : s.vm.findClass RX8 = some m.cls := findClass_of_methodNamed B.named
  have hlocks := B.notSynchronized
  subst hsz
  have hD := hD0.self (sz := s.heap.size)
  have hA := zA_of hD
  have hl := lv_entry ([.ref m0, .int n]) (n := 3) (Nat.le_of_ble_eq_true rfl)
  rw [lg_entry_eq]
  generalize (lg_sl ([.ref m0, .int n]) ++ List.replicate (3 - (lg_sl ([.ref m0, .int n])).length) Slot.unset).toArray = ls at hl ⊢
  replace hl : lv_has ls 3 [(0, .ref m0), (1, .int n)] := hl
  refine zw_begin hP hD (fun H locs hP1 hS => ?_)
  clear hP
  have hP := hP1
  clear hP1
  refine lv_iload_n hx hb dX8_teeth_0 rfl (lv_at hl 1 rfl) ?_
  refine lv_iconst (v := 4) hx hb dX8_teeth_1 (by decide) ?_
  refine lv_icmp_lt (tgt := 11) hx hb dX8_teeth_2 (by decide) (fun c_1 => ?_) (fun c_1 => ?_)
  · have fc_1 : n.toInt < 4 := zf_lt c_1 rfl (by decide)
    refine lv_aload_n hx hb dX8_teeth_11 rfl (lv_at hl 0 rfl) ?_
    refine lv_bipush (v := (-6)) hx hb dX8_teeth_12 (by decide) ?_
    skip
    refine zw_V (As := [.int (-6)]) (rest := []) (wr := [(mla, .inl (cI, 40, .inl gla)), (msl, .inl (cI, 40, .inl gsl))]) ⟨hx, hb, hml, hown, hts⟩ (c_M_no_6 l D cI cJ cZ cP cS po m0 mrf mki mpa mta mla msl mco mhe mso msi msh mce mca mwo mnu mte mwa mke mma mth mtr (npu) (nte) (nat_) (nde) (nto) (nse) (nhu) (nga) (nsd) (nfa) (nba) (npl) (nen) (nnu) (nwr) (nra) (nik) grf hy0 hy1 hy2 hy3 hy4 hy5 hy6 hy7 hy8 hy9 hy10 hy11 hy12 hy13 H.size) (cwV 1 hts gX8_teeth_X8_no rfl rfl rfl ⟨rfl, dh_X8_no⟩ ⟨Nat.le_of_ble_eq_true rfl, Nat.le_of_ble_eq_true rfl⟩) hK hN (hZ.kept hS) hP hD hS hA [0, 1] [2, 3] rfl rfl (by decide) (by decide) (by decide) (va_recv (q := (RX8, TX8, 38)) hK hP (ci := 8) (q0 := 0) rfl rfl) rfl hl.1 rfl (Nat.le_of_ble_eq_true rfl) dX8_teeth_14 ⟨Nat.le_of_ble_eq_true rfl, Nat.le_of_ble_eq_true rfl⟩ (fun r_2 u_3 H locs hr_2 hP hD hS => ?_)
    obtain ⟨q_4, rfl⟩ : ∃ z, z = u_3 := ⟨_, rfl⟩
    have h9R := zRe (ws' := [(mla, .inl (cI, 40, .inl gla)), (msl, .inl (cI, 40, .inl gsl)), (zMO m0 npu nte nat_ nde nto nse nhu nga nsd nfa mrf mki mpa mta mla msl mco mhe mso msi msh mce mca mwo mnu mte nba npl nen nnu nwr mwa mke mma mth mtr nra nik), (mrf, .inl (cI, 8, .inl q_4))]) hP hD rfl
    clear hP hD
    obtain ⟨hP, hD⟩ := h9R
    obtain rfl := hr_2
    exact W.iret (v := (-6)) hx hb hr (fun t ht hW => ⟨⟨(-6), (nte, nat_, q_4, gla, gsl), rfl, ⟨(show 4 ≤ nte.toInt ∧ nte.toInt ≤ 40 from ⟨hy2, hy3⟩), (show 0 ≤ nat_.toInt ∧ nat_.toInt ≤ 40 from ⟨hy4, hy5⟩), hp_gla, hp_gsl, (show ((4 ≤ n.toInt ∧ n.toInt ≤ 40) ∧ ((-6) : Int32).toInt = nte.toInt ∧ nte.toInt = n.toInt) ∨ (¬ (4 ≤ n.toInt ∧ n.toInt ≤ 40) ∧ ((-6) : Int32).toInt = -6 ∧ nte.toInt = nte.toInt) from by (have k9 : ((-6) : Int32).toInt = -6 := (by decide); omega)), (show ((4 ≤ n.toInt ∧ n.toInt ≤ 40) ∧ (∀ j : Nat, j < 40 → gla j = 0) ∧ (∀ j : Nat, j < 40 → gsl j = 0) ∧ nat_.toInt = 0) ∨ (¬ (4 ≤ n.toInt ∧ n.toInt ≤ 40) ∧ gla = gla ∧ gsl = gsl ∧ nat_ = nat_) from by (exact Or.inr ⟨by omega, rfl, rfl, rfl⟩)), trivial⟩, zRet ht hP hD [2, 3, 0, 1] (by decide) rfl⟩, hS.F ht⟩) hS.2.2 dX8_teeth_17
  · have fc_1 : 4 ≤ n.toInt := zf_nlt c_1 rfl (by decide)
    refine lv_iload_n hx hb dX8_teeth_5 rfl (lv_at hl 1 rfl) ?_
    refine lv_bipush (v := 40) hx hb dX8_teeth_6 (by decide) ?_
    refine lv_icmp_le (tgt := 18) hx hb dX8_teeth_8 (by decide) (fun c_5 => ?_) (fun c_5 => ?_)
    · have fc_5 : n.toInt ≤ 40 := zf_le c_5 rfl (by decide)
      refine lv_aload_n hx hb dX8_teeth_18 rfl (lv_at hl 0 rfl) ?_
      refine va_get (D := D) (ci := 8) (v := .int nte) (C := RX8) (T := TX8) (N := 38) hx hb hts hi_X8_teeth_8 hown hK hP 0 rfl rfl 1 (by decide) (hts (.fieldLink RX8 7 "TheLiningsInItModel" "teeth" "I") (List.mem_of_getElem? (i := 1) rfl)) (fun _ h9 => h9) rfl dX8_teeth_19 ?_
      refine lv_istore_n (lv' := [(2, .int nte), (0, .ref m0), (1, .int n)]) hx hb dX8_teeth_22 rfl hl (by decide) rfl (fun ls hl => ?_)
      refine lv_aload_n hx hb dX8_teeth_23 rfl (lv_at hl 1 rfl) ?_
      refine lv_iload_n hx hb dX8_teeth_24 rfl (lv_at hl 2 rfl) ?_
      skip
      refine zw_Vv (As := [.int n]) (rest := []) (wr := [(mrf, .inl (cI, 8, .inl grf))]) ⟨hx, hb, hml, hown, hts⟩ (c_F_M_sews l D cI cJ cZ cP cS po m0 mrf mki mpa mta mla msl mco mhe mso msi msh mce mca mwo mnu mte mwa mke mma mth mtr (npu) (nte) (nat_) (nde) (nto) (nse) (nhu) (nga) (nsd) (nfa) (nba) (npl) (nen) (nnu) (nwr) (nra) (nik) gla gsl (n) hy0 hy1 hy2 hy3 hy4 hy5 hy6 hy7 hy8 hy9 hy10 hy11 hy12 hy13 (by omega) (by omega) hp_gla hp_gsl H.size) (cwV 1 hts gX8_teeth_X8_sews rfl rfl rfl ⟨rfl, dh_X8_sews⟩ ⟨Nat.le_of_ble_eq_true rfl, Nat.le_of_ble_eq_true rfl⟩) hK hN (hZ.kept hS) hP hD hS hA [0, 2, 3] [1] rfl rfl (by decide) (by decide) (by decide) (va_recv (q := (RX8, TX8, 38)) hK hP (ci := 8) (q0 := 0) rfl rfl) rfl hl.1 rfl (Nat.le_of_ble_eq_true rfl) dX8_teeth_25 ⟨Nat.le_of_ble_eq_true rfl, Nat.le_of_ble_eq_true rfl⟩ (fun u_7 H locs hr_6 hP hD hS => ?_)
      obtain ⟨q_8, q_9, q_10, q_11⟩ := u_7
      try dsimp only at hr_6
      obtain ⟨hbq_8, hbq_9, hpq_10, hpq_11, hsr_6_0, hsr_6_1, hsr_6_2, hsr_6_3, hr_6⟩ := hr_6
      have h9R := zRe (ws' := [(mrf, .inl (cI, 8, .inl grf)), (zMO m0 npu q_8 q_9 nde nto nse nhu nga nsd nfa mrf mki mpa mta mla msl mco mhe mso msi msh mce mca mwo mnu mte nba npl nen nnu nwr mwa mke mma mth mtr nra nik), (mla, .inl (cI, 40, .inl q_10)), (msl, .inl (cI, 40, .inl q_11))]) hP hD rfl
      clear hP hD
      obtain ⟨hP, hD⟩ := h9R
      refine lv_iload_n hx hb dX8_teeth_28 rfl (lv_at hl 0 rfl) ?_
      exact W.iret (v := nte) hx hb hr (fun t ht hW => ⟨⟨nte, (q_8, q_9, grf, q_10, q_11), rfl, ⟨(show 4 ≤ q_8.toInt ∧ q_8.toInt ≤ 40 from hbq_8), (show 0 ≤ q_9.toInt ∧ q_9.toInt ≤ 40 from hbq_9), hpq_10, hpq_11, (show ((4 ≤ n.toInt ∧ n.toInt ≤ 40) ∧ (nte : Int32).toInt = nte.toInt ∧ q_8.toInt = n.toInt) ∨ (¬ (4 ≤ n.toInt ∧ n.toInt ≤ 40) ∧ (nte : Int32).toInt = -6 ∧ q_8.toInt = nte.toInt) from by (exact Or.inl ⟨by omega, by omega, congrArg Int32.toInt hsr_6_0⟩)), (show ((4 ≤ n.toInt ∧ n.toInt ≤ 40) ∧ (∀ j : Nat, j < 40 → q_10 j = 0) ∧ (∀ j : Nat, j < 40 → q_11 j = 0) ∧ q_9.toInt = 0) ∨ (¬ (4 ≤ n.toInt ∧ n.toInt ≤ 40) ∧ q_10 = gla ∧ q_11 = gsl ∧ q_9 = nat_) from by (exact Or.inl ⟨by omega, hsr_6_1, hsr_6_2, hsr_6_3⟩)), trivial⟩, zRet ht hP hD [1, 0, 2, 3] (by decide) rfl⟩, hS.F ht⟩) hS.2.2 dX8_teeth_29
    · have fc_5 : 40 < n.toInt := zf_nle c_5 rfl (by decide)
      refine lv_aload_n hx hb dX8_teeth_11 rfl (lv_at hl 0 rfl) ?_
      refine lv_bipush (v := (-6)) hx hb dX8_teeth_12 (by decide) ?_
      skip
      refine zw_V (As := [.int (-6)]) (rest := []) (wr := [(mla, .inl (cI, 40, .inl gla)), (msl, .inl (cI, 40, .inl gsl))]) ⟨hx, hb, hml, hown, hts⟩ (c_M_no_6 l D cI cJ cZ cP cS po m0 mrf mki mpa mta mla msl mco mhe mso msi msh mce mca mwo mnu mte mwa mke mma mth mtr (npu) (nte) (nat_) (nde) (nto) (nse) (nhu) (nga) (nsd) (nfa) (nba) (npl) (nen) (nnu) (nwr) (nra) (nik) grf hy0 hy1 hy2 hy3 hy4 hy5 hy6 hy7 hy8 hy9 hy10 hy11 hy12 hy13 H.size) (cwV 1 hts gX8_teeth_X8_no rfl rfl rfl ⟨rfl, dh_X8_no⟩ ⟨Nat.le_of_ble_eq_true rfl, Nat.le_of_ble_eq_true rfl⟩) hK hN (hZ.kept hS) hP hD hS hA [0, 1] [2, 3] rfl rfl (by decide) (by decide) (by decide) (va_recv (q := (RX8, TX8, 38)) hK hP (ci := 8) (q0 := 0) rfl rfl) rfl hl.1 rfl (Nat.le_of_ble_eq_true rfl) dX8_teeth_14 ⟨Nat.le_of_ble_eq_true rfl, Nat.le_of_ble_eq_true rfl⟩ (fun r_12 u_13 H locs hr_12 hP hD hS => ?_)
      obtain ⟨q_14, rfl⟩ : ∃ z, z = u_13 := ⟨_, rfl⟩
      have h9R := zRe (ws' := [(mla, .inl (cI, 40, .inl gla)), (msl, .inl (cI, 40, .inl gsl)), (zMO m0 npu nte nat_ nde nto nse nhu nga nsd nfa mrf mki mpa mta mla msl mco mhe mso msi msh mce mca mwo mnu mte nba npl nen nnu nwr mwa mke mma mth mtr nra nik), (mrf, .inl (cI, 8, .inl q_14))]) hP hD rfl
      clear hP hD
      obtain ⟨hP, hD⟩ := h9R
      obtain rfl := hr_12
      exact W.iret (v := (-6)) hx hb hr (fun t ht hW => ⟨⟨(-6), (nte, nat_, q_14, gla, gsl), rfl, ⟨(show 4 ≤ nte.toInt ∧ nte.toInt ≤ 40 from ⟨hy2, hy3⟩), (show 0 ≤ nat_.toInt ∧ nat_.toInt ≤ 40 from ⟨hy4, hy5⟩), hp_gla, hp_gsl, (show ((4 ≤ n.toInt ∧ n.toInt ≤ 40) ∧ ((-6) : Int32).toInt = nte.toInt ∧ nte.toInt = n.toInt) ∨ (¬ (4 ≤ n.toInt ∧ n.toInt ≤ 40) ∧ ((-6) : Int32).toInt = -6 ∧ nte.toInt = nte.toInt) from by (have k9 : ((-6) : Int32).toInt = -6 := (by decide); omega)), (show ((4 ≤ n.toInt ∧ n.toInt ≤ 40) ∧ (∀ j : Nat, j < 40 → gla j = 0) ∧ (∀ j : Nat, j < 40 → gsl j = 0) ∧ nat_.toInt = 0) ∨ (¬ (4 ≤ n.toInt ∧ n.toInt ≤ 40) ∧ gla = gla ∧ gsl = gsl ∧ nat_ = nat_) from by (exact Or.inr ⟨by omega, rfl, rfl, rfl⟩)), trivial⟩, zRet ht hP hD [2, 3, 0, 1] (by decide) rfl⟩, hS.F ht⟩) hS.2.2 dX8_teeth_17
set_option maxHeartbeats 4000000 in
set_option maxRecDepth 100000 in
theorem c_F_M_fault (l : Launch) (D : va_G) (cI cJ cZ cP cS : ClassId) (po : zPool) (m0 mrf mki mpa mta mla msl mco mhe mso msi msh mce mca mwo mnu mte mwa mke mma mth mtr : Nat) (npu nte nat_ nde nto nse nhu nga nsd nfa nba npl nen nnu nwr nra nik : Int32) (hy0 : 0 ≤ npu.toInt) (hy1 : npu.toInt ≤ 8) (hy2 : 4 ≤ nte.toInt) (hy3 : nte.toInt ≤ 40) (hy4 : 0 ≤ nat_.toInt) (hy5 : nat_.toInt ≤ 40) (hy6 : 0 ≤ nde.toInt) (hy7 : nde.toInt ≤ 24) (hy8 : 0 ≤ nhu.toInt) (hy9 : nhu.toInt ≤ 9) (hy10 : 0 ≤ nra.toInt) (hy11 : nra.toInt ≤ 2000) (hy12 : 0 ≤ nik.toInt) (hy13 : nik.toInt ≤ 1) : Met l yX8_fault wsX8_fault ({ frames := 0, cells := 0, slots := 0, locals := 0 }) (va_Pc [.ref m0] (zR D (zKT cI cJ cZ cP cS) po [(zMO m0 npu nte nat_ nde nto nse nhu nga nsd nfa mrf mki mpa mta mla msl mco mhe mso msi msh mce mca mwo mnu mte nba npl nen nnu nwr mwa mke mma mth mtr nra nik)])) (vp_Si (fun r => (r.toInt = nfa.toInt))) 0 0 (fun _ => False) := by
  refine Met.ofW (cc := cX8_fault) (maxL := 1) (ret := (some .int)) (by decide) rfl ?_
  intro p e s m args below meth c s₁ B hml hv
  obtain ⟨rfl, hP, hK, hN, hZ⟩ := hv
  have hx := B.exec
  have hb := B.bytes
  have hr := B.returns
  have hts := atoms_spec (ws := wsX8_fault) B.pre
  have hown : s.vm.findClass RX8 = some m.cls := findClass_of_methodNamed B.named
  have hlocks := B.notSynchronized
  have hl := lv_entry ([.ref m0]) (n := 1) (Nat.le_of_ble_eq_true rfl)
  rw [lg_entry_eq]
  generalize (lg_sl ([.ref m0]) ++ List.replicate (1 - (lg_sl ([.ref m0])).length) Slot.unset).toArray = ls at hl ⊢
  replace hl : lv_has ls 1 [(0, .ref m0)] := hl
  refine lv_aload_n hx hb dX8_fault_0 rfl (lv_at hl 0 rfl) ?_
  refine va_get (D := D) (ci := 8) (v := .int nfa) (C := RX8) (T := TX8) (N := 38) hx hb hts hi_X8_fault_8 hown hK hP 0 rfl rfl 9 (by decide) (hts (.fieldLink RX8 22 "TheLiningsInItModel" "fault" "I") (List.mem_of_getElem? (i := 1) rfl)) (fun _ h9 => h9) rfl dX8_fault_1 ?_
  exact W.iret (v := nfa) hx hb hr (fun t ht hW => ⟨nfa, rfl, (show (nfa : Int32).toInt = nfa.toInt from by rfl), ht⟩) (fun q hq => by cases hq) dX8_fault_4
set_option maxHeartbeats 4000000 in
set_option maxRecDepth 100000 in
theorem c_F_M_image (l : Launch) (D : va_G) (cI cJ cZ cP cS : ClassId) (po : zPool) (m0 mrf mki mpa mta mla msl mco mhe mso msi msh mce mca mwo mnu mte mwa mke mma mth mtr : Nat) (npu nte nat_ nde nto nse nhu nga nsd nfa nba npl nen nnu nwr nra nik : Int32) (gki gpa gta gla gsl gco gke : Nat → Int32) (hy0 : 0 ≤ npu.toInt) (hy1 : npu.toInt ≤ 8) (hy2 : 4 ≤ nte.toInt) (hy3 : nte.toInt ≤ 40) (hy4 : 0 ≤ nat_.toInt) (hy5 : nat_.toInt ≤ 40) (hy6 : 0 ≤ nde.toInt) (hy7 : nde.toInt ≤ 24) (hy8 : 0 ≤ nhu.toInt) (hy9 : nhu.toInt ≤ 9) (hy10 : 0 ≤ nra.toInt) (hy11 : nra.toInt ≤ 2000) (hy12 : 0 ≤ nik.toInt) (hy13 : nik.toInt ≤ 1) (hp_gki : zRg gki (0) 6) (hp_gpa : zRg gpa (0) 9) (hp_gta : zRg gta (0) 60) (hp_gla : zRg gla (0) 1) (hp_gsl : zRg gsl (0) 9) (hp_gco : zRg gco (0) 99) (hpz : Nat) : Met l yX8_image wsX8_image ({ frames := 2, cells := 0, slots := 0, locals := 49 }) (va_Pc [.ref m0] (zW D (zKT cI cJ cZ cP cS) po [(zMO m0 npu nte nat_ nde nto nse nhu nga nsd nfa mrf mki mpa mta mla msl mco mhe mso msi msh mce mca mwo mnu mte nba npl nen nnu nwr mwa mke mma mth mtr nra nik), (mki, .inl (cI, 8, .inl gki)), (mpa, .inl (cI, 8, .inl gpa)), (mta, .inl (cI, 8, .inl gta)), (mla, .inl (cI, 40, .inl gla)), (msl, .inl (cI, 40, .inl gsl)), (mco, .inl (cI, 3, .inl gco)), (mke, .inl (cI, 130, .inl gke))] hpz)) (va_Qi (fun (r : Int32) (u : (Nat → Int32) × (Int32)) => (0 ≤ u.2.toInt ∧ u.2.toInt ≤ 1) ∧ (zKp u.1) ∧ ((∀ j : Nat, j < 116 → u.1 j = zAll gki gpa gta gla gsl gco npu nte nat_ nde nto nse nhu nga nsd j)) ∧ (u.2.toInt = 1 ∧ r.toInt = npu.toInt) ∧ ((u.1 107).toInt = npu.toInt ∧ (u.1 108).toInt = nte.toInt) ∧ (True)) (zB D [(zMO m0 npu nte nat_ nde nto nse nhu nga nsd nfa mrf mki mpa mta mla msl mco mhe mso msi msh mce mca mwo mnu mte nba npl nen nnu nwr mwa mke mma mth mtr nra nik), (mki, .inl (cI, 8, .inl gki)), (mpa, .inl (cI, 8, .inl gpa)), (mta, .inl (cI, 8, .inl gta)), (mla, .inl (cI, 40, .inl gla)), (msl, .inl (cI, 40, .inl gsl)), (mco, .inl (cI, 3, .inl gco)), (mke, .inl (cI, 130, .inl gke))] hpz (fun (u : (Nat → Int32) × (Int32)) => [(zMO m0 npu nte nat_ nde nto nse nhu nga nsd nfa mrf mki mpa mta mla msl mco mhe mso msi msh mce mca mwo mnu mte nba npl nen nnu nwr mwa mke mma mth mtr nra u.2), (mki, .inl (cI, 8, .inl gki)), (mpa, .inl (cI, 8, .inl gpa)), (mta, .inl (cI, 8, .inl gta)), (mla, .inl (cI, 40, .inl gla)), (msl, .inl (cI, 40, .inl gsl)), (mco, .inl (cI, 3, .inl gco)), (mke, .inl (cI, 130, .inl u.1))])) (va_A [(zMO m0 npu nte nat_ nde nto nse nhu nga nsd nfa mrf mki mpa mta mla msl mco mhe mso msi msh mce mca mwo mnu mte nba npl nen nnu nwr mwa mke mma mth mtr nra nik), (mki, .inl (cI, 8, .inl gki)), (mpa, .inl (cI, 8, .inl gpa)), (mta, .inl (cI, 8, .inl gta)), (mla, .inl (cI, 40, .inl gla)), (msl, .inl (cI, 40, .inl gsl)), (mco, .inl (cI, 3, .inl gco)), (mke, .inl (cI, 130, .inl gke))] hpz)) 0 0 (va_A [(zMO m0 npu nte nat_ nde nto nse nhu nga nsd nfa mrf mki mpa mta mla msl mco mhe mso msi msh mce mca mwo mnu mte nba npl nen nnu nwr mwa mke mma mth mtr nra nik), (mki, .inl (cI, 8, .inl gki)), (mpa, .inl (cI, 8, .inl gpa)), (mta, .inl (cI, 8, .inl gta)), (mla, .inl (cI, 40, .inl gla)), (msl, .inl (cI, 40, .inl gsl)), (mco, .inl (cI, 3, .inl gco)), (mke, .inl (cI, 130, .inl gke))] hpz) := by
  refine Met.ofW (cc := cX8_image) (maxL := 1) (ret := (some .int)) (by decide) rfl ?_
  intro p e s m args below meth c s₁ B hml hv
  obtain ⟨rfl, hsz, hP, hK, hD0, hN, hZ⟩ := hv
  have hx := B.exec
  have hb := B.bytes
  have hr := B.returns
  have hts := atoms_spec (ws := wsX8_image) B.pre
  have hown : s.vm.findClass RX8 = some m.cls := findClass_of_methodNamed B.named
  have hlocks := B.notSynchronized
  subst hsz
  have hD := hD0.self (sz := s.heap.size)
  have hA := zA_of hD
  have hl := lv_entry ([.ref m0]) (n := 1) (Nat.le_of_ble_eq_true rfl)
  rw [lg_entry_eq]
  generalize (lg_sl ([.ref m0]) ++ List.replicate (1 - (lg_sl ([.ref m0])).length) Slot.unset).toArray = ls at hl ⊢
  replace hl : lv_has ls 1 [(0, .ref m0)] := hl
  refine zw_begin hP hD (fun H locs hP1 hS => ?_)
  clear hP
  have hP := hP1
  clear hP1
  refine lv_aload_n hx hb dX8_image_0 rfl (lv_at hl 0 rfl) ?_
  refine lv_iconst (v := 1) hx hb dX8_image_1 (by decide) ?_
  refine va_put (D := D) (ci := 8) (v := .int 1) (ty := .boolean) (C := RX8) (T := TX8) (N := 38) hx hb hts hi_X8_image_8 tyX8 tyX8_ok nmX8 hown hK hP hD hS 0 rfl rfl 37 (by decide) (hts (.fieldLink RX8 300 "TheLiningsInItModel" "isKept" "Z") (List.mem_of_getElem? (i := 1) rfl)) (fun _ h9 => h9) rfl (tyX8_ok 37 (Nat.le_of_ble_eq_true rfl)) rfl rfl (Nat.le_of_ble_eq_true rfl) dX8_image_2 (fun H locs hP hD hS => ?_)
  have h9R := zRe (ws' := [(zMO m0 npu nte nat_ nde nto nse nhu nga nsd nfa mrf mki mpa mta mla msl mco mhe mso msi msh mce mca mwo mnu mte nba npl nen nnu nwr mwa mke mma mth mtr nra 1), (mki, .inl (cI, 8, .inl gki)), (mpa, .inl (cI, 8, .inl gpa)), (mta, .inl (cI, 8, .inl gta)), (mla, .inl (cI, 40, .inl gla)), (msl, .inl (cI, 40, .inl gsl)), (mco, .inl (cI, 3, .inl gco)), (mke, .inl (cI, 130, .inl gke))]) hP hD rfl
  clear hP hD
  obtain ⟨hP, hD⟩ := h9R
  refine lv_aload_n hx hb dX8_image_5 rfl (lv_at hl 0 rfl) ?_
  refine lv_aload_n hx hb dX8_image_6 rfl (lv_at hl 0 rfl) ?_
  refine va_get (D := D) (ci := 8) (v := .ref mke) (C := RX8) (T := TX8) (N := 38) hx hb hts hi_X8_image_8 hown hK hP 0 rfl rfl 32 (by decide) (hts (.fieldLink RX8 78 "TheLiningsInItModel" "kept" "[I") (List.mem_of_getElem? (i := 2) rfl)) (fun _ h9 => h9) rfl dX8_image_7 ?_
  refine lv_iconst (v := 0) hx hb dX8_image_10 (by decide) ?_
  have kc1 : (1 : Int32).toInt = 1 := by decide
  skip
  refine zw_Vv (As := [.ref mke, .int 0]) (rest := []) (wr := []) ⟨hx, hb, hml, hown, hts⟩ (c_M_all_f l D cI cJ cZ cP cS po m0 mrf mki mpa mta mla msl mco mhe mso msi msh mce mca mwo mnu mte mwa mke mma mth mtr (npu) (nte) (nat_) (nde) (nto) (nse) (nhu) (nga) (nsd) (nfa) (nba) (npl) (nen) (nnu) (nwr) (nra) (1) gki gpa gta gla gsl gco mke gke hy0 hy1 hy2 hy3 hy4 hy5 hy6 hy7 hy8 hy9 hy10 hy11 (by omega) (by omega) hp_gki hp_gpa hp_gta hp_gla hp_gsl hp_gco H.size) (cwV 2 hts gX8_image_X8_all rfl rfl rfl ⟨rfl, dh_X8_all⟩ ⟨Nat.le_of_ble_eq_true rfl, Nat.le_of_ble_eq_true rfl⟩) hK hN (hZ.kept hS) hP hD hS hA [0, 1, 2, 3, 4, 5, 6, 7] [] rfl rfl (by decide) (by decide) (by decide) (va_recv (q := (RX8, TX8, 38)) hK hP (ci := 8) (q0 := 0) rfl rfl) rfl hl.1 rfl (Nat.le_of_ble_eq_true rfl) dX8_image_11 ⟨Nat.le_of_ble_eq_true rfl, Nat.le_of_ble_eq_true rfl⟩ (fun u_2 H locs hr_1 hP hD hS => ?_)
  obtain ⟨q_3, rfl⟩ : ∃ z, z = u_2 := ⟨_, rfl⟩
  obtain ⟨hsr_1_0, hr_1⟩ := hr_1
  have h9R := zRe (ws' := [(zMO m0 npu nte nat_ nde nto nse nhu nga nsd nfa mrf mki mpa mta mla msl mco mhe mso msi msh mce mca mwo mnu mte nba npl nen nnu nwr mwa mke mma mth mtr nra 1), (mki, .inl (cI, 8, .inl gki)), (mpa, .inl (cI, 8, .inl gpa)), (mta, .inl (cI, 8, .inl gta)), (mla, .inl (cI, 40, .inl gla)), (msl, .inl (cI, 40, .inl gsl)), (mco, .inl (cI, 3, .inl gco)), (mke, .inl (cI, 130, .inl q_3))]) hP hD rfl
  clear hP hD
  obtain ⟨hP, hD⟩ := h9R
  refine lv_aload_n hx hb dX8_image_14 rfl (lv_at hl 0 rfl) ?_
  refine va_get (D := D) (ci := 8) (v := .int npu) (C := RX8) (T := TX8) (N := 38) hx hb hts hi_X8_image_8 hown hK hP 0 rfl rfl 0 (by decide) (hts (.fieldLink RX8 90 "TheLiningsInItModel" "pulls" "I") (List.mem_of_getElem? (i := 3) rfl)) (fun _ h9 => h9) rfl dX8_image_15 ?_
  exact W.iret (v := npu) hx hb hr (fun t ht hW => ⟨⟨npu, (q_3, 1), rfl, ⟨(show 0 ≤ (1 : Int32).toInt ∧ (1 : Int32).toInt ≤ 1 from by decide), (show zKp q_3 from by exact (zAll_kp hsr_1_0 hp_gki hp_gpa hp_gta hp_gla hp_gsl hp_gco ⟨by omega, by omega⟩ ⟨by omega, by omega⟩ ⟨by omega, by omega⟩ ⟨by omega, by omega⟩ ⟨by omega, by omega⟩)), (show (∀ j : Nat, j < 116 → q_3 j = zAll gki gpa gta gla gsl gco npu nte nat_ nde nto nse nhu nga nsd j) from by exact hsr_1_0), (show (1 : Int32).toInt = 1 ∧ (npu : Int32).toInt = npu.toInt from by exact ⟨by decide, rfl⟩), (show (q_3 107).toInt = npu.toInt ∧ (q_3 108).toInt = nte.toInt from by exact ⟨congrArg Int32.toInt ((hsr_1_0 107 (by decide)).trans rfl), congrArg Int32.toInt ((hsr_1_0 108 (by decide)).trans rfl)⟩), trivial⟩, zRet ht hP hD [0, 1, 2, 3, 4, 5, 6, 7] (by decide) rfl⟩, hS.F ht⟩) hS.2.2 dX8_image_18
set_option maxHeartbeats 4000000 in
set_option maxRecDepth 100000 in
theorem c_F_M_restore (l : Launch) (D : va_G) (cI cJ cZ cP cS : ClassId) (po : zPool) (m0 mrf mki mpa mta mla msl mco mhe mso msi msh mce mca mwo mnu mte mwa mke mma mth mtr : Nat) (npu nte nat_ nde nto nse nhu nga nsd nfa nba npl nen nnu nwr nra nik : Int32) (grf ghe gsh gki gpa gta gla gsl gco gke : Nat → Int32) (hy0 : 0 ≤ npu.toInt) (hy1 : npu.toInt ≤ 8) (hy2 : 4 ≤ nte.toInt) (hy3 : nte.toInt ≤ 40) (hy4 : 0 ≤ nat_.toInt) (hy5 : nat_.toInt ≤ 40) (hy6 : 0 ≤ nde.toInt) (hy7 : nde.toInt ≤ 24) (hy8 : 0 ≤ nhu.toInt) (hy9 : nhu.toInt ≤ 9) (hy10 : 0 ≤ nra.toInt) (hy11 : nra.toInt ≤ 2000) (hy12 : 0 ≤ nik.toInt) (hy13 : nik.toInt ≤ 1) (hHS : zHS ghe gsh) (hik : (nik.toInt = 1 → zKp gke)) (hp_ghe : zRg ghe (0) 2) (hp_gsh : zRg gsh (-1) 7) (hp_gki : zRg gki (0) 6) (hp_gpa : zRg gpa (0) 9) (hp_gta : zRg gta (0) 60) (hp_gla : zRg gla (0) 1) (hp_gsl : zRg gsl (0) 9) (hp_gco : zRg gco (0) 99) (hpz : Nat) : Met l yX8_restore wsX8_restore ({ frames := 2, cells := 0, slots := 0, locals := 49 }) (va_Pc [.ref m0] (zW D (zKT cI cJ cZ cP cS) po [(zMO m0 npu nte nat_ nde nto nse nhu nga nsd nfa mrf mki mpa mta mla msl mco mhe mso msi msh mce mca mwo mnu mte nba npl nen nnu nwr mwa mke mma mth mtr nra nik), (mrf, .inl (cI, 8, .inl grf)), (mhe, .inl (cI, 8, .inl ghe)), (msh, .inl (cI, 8, .inl gsh)), (mki, .inl (cI, 8, .inl gki)), (mpa, .inl (cI, 8, .inl gpa)), (mta, .inl (cI, 8, .inl gta)), (mla, .inl (cI, 40, .inl gla)), (msl, .inl (cI, 40, .inl gsl)), (mco, .inl (cI, 3, .inl gco)), (mke, .inl (cI, 130, .inl gke))] hpz)) (va_Qi (fun (r : Int32) (u : (Int32) × (Int32) × (Int32) × (Int32) × (Int32) × (Int32) × (Int32) × (Int32) × (Int32) × (Nat → Int32) × (Nat → Int32) × (Nat → Int32) × (Nat → Int32) × (Nat → Int32) × (Nat → Int32) × (Nat → Int32) × (Nat → Int32)) => (0 ≤ u.1.toInt ∧ u.1.toInt ≤ 8) ∧ (4 ≤ u.2.1.toInt ∧ u.2.1.toInt ≤ 40) ∧ (0 ≤ u.2.2.1.toInt ∧ u.2.2.1.toInt ≤ 40) ∧ (0 ≤ u.2.2.2.1.toInt ∧ u.2.2.2.1.toInt ≤ 24) ∧ (0 ≤ u.2.2.2.2.2.2.1.toInt ∧ u.2.2.2.2.2.2.1.toInt ≤ 9) ∧ zRg u.2.2.2.2.2.2.2.2.2.2.1 (0) 2 ∧ zRg u.2.2.2.2.2.2.2.2.2.2.2.1 (0) 6 ∧ zRg u.2.2.2.2.2.2.2.2.2.2.2.2.1 (0) 9 ∧ zRg u.2.2.2.2.2.2.2.2.2.2.2.2.2.1 (0) 60 ∧ zRg u.2.2.2.2.2.2.2.2.2.2.2.2.2.2.1 (0) 1 ∧ zRg u.2.2.2.2.2.2.2.2.2.2.2.2.2.2.2.1 (0) 9 ∧ zRg u.2.2.2.2.2.2.2.2.2.2.2.2.2.2.2.2 (0) 99 ∧ (zHS u.2.2.2.2.2.2.2.2.2.2.1 gsh) ∧ ((nik.toInt = 0 ∧ r.toInt = -6 ∧ u.1.toInt = npu.toInt ∧ u.2.1.toInt = nte.toInt ∧ u.2.2.2.2.2.2.2.2.2.2.1 = ghe) ∨ (nik.toInt ≠ 0 ∧ r.toInt = (gke 107).toInt ∧ u.1.toInt = (gke 107).toInt ∧ u.2.1.toInt = (gke 108).toInt ∧ ∀ j : Nat, j < 8 → u.2.2.2.2.2.2.2.2.2.2.1 j = (if (ghe j).toInt = 2 ∧ (gke 107).toInt ≤ (gsh j).toInt then 0 else ghe j))) ∧ ((nik.toInt = 0 ∧ u.2.2.2.2.2.2.2.2.2.2.2.1 = gki ∧ u.2.2.2.2.2.2.2.2.2.2.2.2.1 = gpa ∧ u.2.2.2.2.2.2.2.2.2.2.2.2.2.1 = gta ∧ u.2.2.2.2.2.2.2.2.2.2.2.2.2.2.1 = gla ∧ u.2.2.2.2.2.2.2.2.2.2.2.2.2.2.2.1 = gsl ∧ u.2.2.2.2.2.2.2.2.2.2.2.2.2.2.2.2 = gco ∧ u.2.2.1 = nat_ ∧ u.2.2.2.1 = nde ∧ u.2.2.2.2.1 = nto ∧ u.2.2.2.2.2.1 = nse ∧ u.2.2.2.2.2.2.1 = nhu ∧ u.2.2.2.2.2.2.2.1 = nga ∧ u.2.2.2.2.2.2.2.2.1 = nsd) ∨ (nik.toInt ≠ 0 ∧ (∀ j : Nat, j < 8 → u.2.2.2.2.2.2.2.2.2.2.2.1 j = gke (0 + j)) ∧ (∀ j : Nat, j < 8 → u.2.2.2.2.2.2.2.2.2.2.2.2.1 j = gke (8 + j)) ∧ (∀ j : Nat, j < 8 → u.2.2.2.2.2.2.2.2.2.2.2.2.2.1 j = gke (16 + j)) ∧ (∀ j : Nat, j < 40 → u.2.2.2.2.2.2.2.2.2.2.2.2.2.2.1 j = gke (24 + j)) ∧ (∀ j : Nat, j < 40 → u.2.2.2.2.2.2.2.2.2.2.2.2.2.2.2.1 j = gke (64 + j)) ∧ (∀ j : Nat, j < 3 → u.2.2.2.2.2.2.2.2.2.2.2.2.2.2.2.2 j = gke (104 + j)) ∧ u.2.2.1 = gke 109 ∧ u.2.2.2.1 = gke 110 ∧ u.2.2.2.2.1 = gke 111 ∧ u.2.2.2.2.2.1 = gke 112 ∧ u.2.2.2.2.2.2.1 = gke 113 ∧ u.2.2.2.2.2.2.2.1 = gke 114 ∧ u.2.2.2.2.2.2.2.2.1 = gke 115)) ∧ (True)) (zB D [(zMO m0 npu nte nat_ nde nto nse nhu nga nsd nfa mrf mki mpa mta mla msl mco mhe mso msi msh mce mca mwo mnu mte nba npl nen nnu nwr mwa mke mma mth mtr nra nik), (mrf, .inl (cI, 8, .inl grf)), (mhe, .inl (cI, 8, .inl ghe)), (msh, .inl (cI, 8, .inl gsh)), (mki, .inl (cI, 8, .inl gki)), (mpa, .inl (cI, 8, .inl gpa)), (mta, .inl (cI, 8, .inl gta)), (mla, .inl (cI, 40, .inl gla)), (msl, .inl (cI, 40, .inl gsl)), (mco, .inl (cI, 3, .inl gco)), (mke, .inl (cI, 130, .inl gke))] hpz (fun (u : (Int32) × (Int32) × (Int32) × (Int32) × (Int32) × (Int32) × (Int32) × (Int32) × (Int32) × (Nat → Int32) × (Nat → Int32) × (Nat → Int32) × (Nat → Int32) × (Nat → Int32) × (Nat → Int32) × (Nat → Int32) × (Nat → Int32)) => [(zMO m0 u.1 u.2.1 u.2.2.1 u.2.2.2.1 u.2.2.2.2.1 u.2.2.2.2.2.1 u.2.2.2.2.2.2.1 u.2.2.2.2.2.2.2.1 u.2.2.2.2.2.2.2.2.1 nfa mrf mki mpa mta mla msl mco mhe mso msi msh mce mca mwo mnu mte nba npl nen nnu nwr mwa mke mma mth mtr nra nik), (mrf, .inl (cI, 8, .inl u.2.2.2.2.2.2.2.2.2.1)), (mhe, .inl (cI, 8, .inl u.2.2.2.2.2.2.2.2.2.2.1)), (msh, .inl (cI, 8, .inl gsh)), (mki, .inl (cI, 8, .inl u.2.2.2.2.2.2.2.2.2.2.2.1)), (mpa, .inl (cI, 8, .inl u.2.2.2.2.2.2.2.2.2.2.2.2.1)), (mta, .inl (cI, 8, .inl u.2.2.2.2.2.2.2.2.2.2.2.2.2.1)), (mla, .inl (cI, 40, .inl u.2.2.2.2.2.2.2.2.2.2.2.2.2.2.1)), (msl, .inl (cI, 40, .inl u.2.2.2.2.2.2.2.2.2.2.2.2.2.2.2.1)), (mco, .inl (cI, 3, .inl u.2.2.2.2.2.2.2.2.2.2.2.2.2.2.2.2)), (mke, .inl (cI, 130, .inl gke))])) (va_A [(zMO m0 npu nte nat_ nde nto nse nhu nga nsd nfa mrf mki mpa mta mla msl mco mhe mso msi msh mce mca mwo mnu mte nba npl nen nnu nwr mwa mke mma mth mtr nra nik), (mrf, .inl (cI, 8, .inl grf)), (mhe, .inl (cI, 8, .inl ghe)), (msh, .inl (cI, 8, .inl gsh)), (mki, .inl (cI, 8, .inl gki)), (mpa, .inl (cI, 8, .inl gpa)), (mta, .inl (cI, 8, .inl gta)), (mla, .inl (cI, 40, .inl gla)), (msl, .inl (cI, 40, .inl gsl)), (mco, .inl (cI, 3, .inl gco)), (mke, .inl (cI, 130, .inl gke))] hpz)) 0 0 (va_A [(zMO m0 npu nte nat_ nde nto nse nhu nga nsd nfa mrf mki mpa mta mla msl mco mhe mso msi msh mce mca mwo mnu mte nba npl nen nnu nwr mwa mke mma mth mtr nra nik), (mrf, .inl (cI, 8, .inl grf)), (mhe, .inl (cI, 8, .inl ghe)), (msh, .inl (cI, 8, .inl gsh)), (mki, .inl (cI, 8, .inl gki)), (mpa, .inl (cI, 8, .inl gpa)), (mta, .inl (cI, 8, .inl gta)), (mla, .inl (cI, 40, .inl gla)), (msl, .inl (cI, 40, .inl gsl)), (mco, .inl (cI, 3, .inl gco)), (mke, .inl (cI, 130, .inl gke))] hpz) := by
  refine Met.ofW (cc := cX8_restore) (maxL := 2) (ret := (some .int)) (by decide) rfl ?_
  intro p e s m args below meth c s₁ B hml hv
  obtain ⟨rfl, hsz, hP, hK, hD0, hN, hZ⟩ := hv
  have hx := B.exec
  have hb := B.bytes
  have hr := B.returns
  have hts := atoms_spec (ws := wsX8_restore) B.pre
  have hown : s.vm.findClass RX8 = some m.cls := findClass_of_methodNamed B.named
  have hlocks := B.notSynchronized
  subst hsz
  have hD := hD0.self (sz := s.heap.size)
  have hA := zA_of hD
  have hl := lv_entry ([.ref m0]) (n := 2) (Nat.le_of_ble_eq_true rfl)
  rw [lg_entry_eq]
  generalize (lg_sl ([.ref m0]) ++ List.replicate (2 - (lg_sl ([.ref m0])).length) Slot.unset).toArray = ls at hl ⊢
  replace hl : lv_has ls 2 [(0, .ref m0)] := hl
  refine zw_begin hP hD (fun H locs hP1 hS => ?_)
  clear hP
  have hP := hP1
  clear hP1
  refine lv_aload_n hx hb dX8_restore_0 rfl (lv_at hl 0 rfl) ?_
  refine va_get (D := D) (ci := 8) (v := .int nik) (C := RX8) (T := TX8) (N := 38) hx hb hts hi_X8_restore_8 hown hK hP 0 rfl rfl 37 (by decide) (hts (.fieldLink RX8 300 "TheLiningsInItModel" "isKept" "Z") (List.mem_of_getElem? (i := 1) rfl)) (fun _ h9 => h9) rfl dX8_restore_1 ?_
  refine lv_if_ne (tgt := 14) hx hb dX8_restore_4 (by decide) (fun c_1 => ?_) (fun c_1 => ?_)
  · have fc_1 : nik.toInt ≠ 0 := zf_ne c_1 rfl (by decide)
    refine lv_aload_n hx hb dX8_restore_14 rfl (lv_at hl 0 rfl) ?_
    refine lv_aload_n hx hb dX8_restore_15 rfl (lv_at hl 0 rfl) ?_
    refine va_get (D := D) (ci := 8) (v := .ref mke) (C := RX8) (T := TX8) (N := 38) hx hb hts hi_X8_restore_8 hown hK hP 0 rfl rfl 32 (by decide) (hts (.fieldLink RX8 78 "TheLiningsInItModel" "kept" "[I") (List.mem_of_getElem? (i := 2) rfl)) (fun _ h9 => h9) rfl dX8_restore_16 ?_
    refine lv_iconst (v := 1) hx hb dX8_restore_19 (by decide) ?_
    skip
    refine zw_Vv (As := [.ref mke, .int 1]) (rest := []) (wr := [(mrf, .inl (cI, 8, .inl grf)), (mhe, .inl (cI, 8, .inl ghe)), (msh, .inl (cI, 8, .inl gsh))]) ⟨hx, hb, hml, hown, hts⟩ (c_M_all_b l D cI cJ cZ cP cS po m0 mrf mki mpa mta mla msl mco mhe mso msi msh mce mca mwo mnu mte mwa mke mma mth mtr (npu) (nte) (nat_) (nde) (nto) (nse) (nhu) (nga) (nsd) (nfa) (nba) (npl) (nen) (nnu) (nwr) (nra) (nik) gki gpa gta gla gsl gco mke gke hy0 hy1 hy2 hy3 hy4 hy5 hy6 hy7 hy8 hy9 hy10 hy11 hy12 hy13 (hik (by omega)) hp_gki hp_gpa hp_gta hp_gla hp_gsl hp_gco H.size) (cwV 2 hts gX8_restore_X8_all rfl rfl rfl ⟨rfl, dh_X8_all⟩ ⟨Nat.le_of_ble_eq_true rfl, Nat.le_of_ble_eq_true rfl⟩) hK hN (hZ.kept hS) hP hD hS hA [0, 4, 5, 6, 7, 8, 9, 10] [1, 2, 3] rfl rfl (by decide) (by decide) (by decide) (va_recv (q := (RX8, TX8, 38)) hK hP (ci := 8) (q0 := 0) rfl rfl) rfl hl.1 rfl (Nat.le_of_ble_eq_true rfl) dX8_restore_20 ⟨Nat.le_of_ble_eq_true rfl, Nat.le_of_ble_eq_true rfl⟩ (fun u_3 H locs hr_2 hP hD hS => ?_)
    obtain ⟨q_4, q_5, q_6, q_7, q_8, q_9, q_10, q_11, q_12, q_13, q_14, q_15, q_16, q_17, q_18⟩ := u_3
    try dsimp only at hr_2
    obtain ⟨hbq_4, hbq_5, hbq_6, hbq_7, hbq_10, hpq_13, hpq_14, hpq_15, hpq_16, hpq_17, hpq_18, hsr_2_0, hsr_2_1, hsr_2_2, hsr_2_3, hsr_2_4, hsr_2_5, hsr_2_6, hr_2⟩ := hr_2
    have h9R := zRe (ws' := [(mrf, .inl (cI, 8, .inl grf)), (mhe, .inl (cI, 8, .inl ghe)), (msh, .inl (cI, 8, .inl gsh)), (zMO m0 q_4 q_5 q_6 q_7 q_8 q_9 q_10 q_11 q_12 nfa mrf mki mpa mta mla msl mco mhe mso msi msh mce mca mwo mnu mte nba npl nen nnu nwr mwa mke mma mth mtr nra nik), (mki, .inl (cI, 8, .inl q_13)), (mpa, .inl (cI, 8, .inl q_14)), (mta, .inl (cI, 8, .inl q_15)), (mla, .inl (cI, 40, .inl q_16)), (msl, .inl (cI, 40, .inl q_17)), (mco, .inl (cI, 3, .inl q_18)), (mke, .inl (cI, 130, .inl gke))]) hP hD rfl
    clear hP hD
    obtain ⟨hP, hD⟩ := h9R
    refine lv_iconst (v := 0) hx hb dX8_restore_23 (by decide) ?_
    refine lv_istore_n (lv' := [(1, .int 0), (0, .ref m0)]) hx hb dX8_restore_24 rfl hl (by decide) rfl (fun ls hl => ?_)
    obtain ⟨i_25, hi_25⟩ : ∃ i : Int32, i = 0 := ⟨_, rfl⟩
    replace hl : lv_has ls 2 [(1, .int i_25), (0, .ref m0)] := by rw [hi_25]; exact lv_sub hl [0, 1] rfl
    have h1i_25 : i_25.toInt = 0 := by rw [hi_25]; decide
    obtain ⟨nfu, hni_25⟩ : ∃ nq9 : Nat, 8 ≤ i_25.toInt + (nq9 : Int) := ⟨((8 : Int) - 0).toNat, by omega⟩
    have hloi_25 : 0 ≤ i_25.toInt := by omega
    obtain ⟨g_19, hg_19⟩ : ∃ g : Nat → Int32, g = ghe := ⟨_, rfl⟩
    have hpg_19 : zRg g_19 (0) 2 := by rw [hg_19]; exact hp_ghe
    replace hP : va_P D vwCl [(mrf, .inl (cI, 8, .inl grf)), (mhe, .inl (cI, 8, .inl g_19)), (msh, .inl (cI, 8, .inl gsh)), (zMO m0 q_4 q_5 q_6 q_7 q_8 q_9 q_10 q_11 q_12 nfa mrf mki mpa mta mla msl mco mhe mso msi msh mce mca mwo mnu mte nba npl nen nnu nwr mwa mke mma mth mtr nra nik), (mki, .inl (cI, 8, .inl q_13)), (mpa, .inl (cI, 8, .inl q_14)), (mta, .inl (cI, 8, .inl q_15)), (mla, .inl (cI, 40, .inl q_16)), (msl, .inl (cI, 40, .inl q_17)), (mco, .inl (cI, 3, .inl q_18)), (mke, .inl (cI, 130, .inl gke))] H := by rw [hg_19]; exact hP
    replace hD : va_D (va_A [(zMO m0 npu nte nat_ nde nto nse nhu nga nsd nfa mrf mki mpa mta mla msl mco mhe mso msi msh mce mca mwo mnu mte nba npl nen nnu nwr mwa mke mma mth mtr nra nik), (mrf, .inl (cI, 8, .inl grf)), (mhe, .inl (cI, 8, .inl ghe)), (msh, .inl (cI, 8, .inl gsh)), (mki, .inl (cI, 8, .inl gki)), (mpa, .inl (cI, 8, .inl gpa)), (mta, .inl (cI, 8, .inl gta)), (mla, .inl (cI, 40, .inl gla)), (msl, .inl (cI, 40, .inl gsl)), (mco, .inl (cI, 3, .inl gco)), (mke, .inl (cI, 130, .inl gke))] s.heap.size) [(mrf, .inl (cI, 8, .inl grf)), (mhe, .inl (cI, 8, .inl g_19)), (msh, .inl (cI, 8, .inl gsh)), (zMO m0 q_4 q_5 q_6 q_7 q_8 q_9 q_10 q_11 q_12 nfa mrf mki mpa mta mla msl mco mhe mso msi msh mce mca mwo mnu mte nba npl nen nnu nwr mwa mke mma mth mtr nra nik), (mki, .inl (cI, 8, .inl q_13)), (mpa, .inl (cI, 8, .inl q_14)), (mta, .inl (cI, 8, .inl q_15)), (mla, .inl (cI, 40, .inl q_16)), (msl, .inl (cI, 40, .inl q_17)), (mco, .inl (cI, 3, .inl q_18)), (mke, .inl (cI, 130, .inl gke))] := by rw [hg_19]; exact hD
    have hvi_25_0 : (∀ j : Nat, (g_19 j).toInt = 2 → (ghe j).toInt = 2) := by
      (try rw [hi_25]); (try rw [hg_19]); exact fun j hj => hj
    have hvi_25_1 : (∀ j : Nat, g_19 j = (if (j : Int) < i_25.toInt ∧ (ghe j).toInt = 2 ∧ (q_4 : Int32).toInt ≤ (gsh j).toInt then 0 else ghe j)) := by
      (try rw [hi_25]); (try rw [hg_19]); (intro j; rw [if_neg (by have k0 : (0 : Int32).toInt = 0 := (by decide); omega)])
    have hvi_25_2 : i_25.toInt ≤ 8 := by
      (try rw [hi_25]); (try rw [hg_19]); first | omega | decide
    clear h1i_25 hi_25 hg_19
    skip
    revert hni_25
    revert hloi_25
    revert hvi_25_2
    revert hvi_25_1
    revert hvi_25_0
    revert hpg_19
    revert hl
    revert hS
    revert hD
    revert hP
    revert ls
    revert locs
    revert H
    revert g_19
    revert i_25
    induction nfu with
    | zero =>
      intro i_25 g_19 H locs ls hP hD hS hl hpg_19 hvi_25_0 hvi_25_1 hvi_25_2 hloi_25 hni_25
      have hzi_25 : 8 ≤ i_25.toInt := by omega
      refine lv_iload_n hx hb dX8_restore_25 rfl (lv_at hl 0 rfl) ?_
      refine lv_bipush (v := 8) hx hb dX8_restore_26 (by decide) ?_
      refine lv_icmp_ge (tgt := 67) hx hb dX8_restore_28 (by decide) (fun c_20 => ?_) (fun c_20 => ?_)
      · have fc_20 : 8 ≤ i_25.toInt := zf_le c_20 (by decide) rfl
        refine lv_aload_n hx hb dX8_restore_67 rfl (lv_at hl 1 rfl) ?_
        refine va_get (D := D) (ci := 8) (v := .int q_4) (C := RX8) (T := TX8) (N := 38) hx hb hts hi_X8_restore_8 hown hK hP 3 rfl rfl 0 (by decide) (hts (.fieldLink RX8 90 "TheLiningsInItModel" "pulls" "I") (List.mem_of_getElem? (i := 5) rfl)) (fun _ h9 => h9) rfl dX8_restore_68 ?_
        exact W.iret (v := q_4) hx hb hr (fun t ht hW => ⟨⟨q_4, (q_4, q_5, q_6, q_7, q_8, q_9, q_10, q_11, q_12, grf, g_19, q_13, q_14, q_15, q_16, q_17, q_18), rfl, ⟨(show 0 ≤ q_4.toInt ∧ q_4.toInt ≤ 8 from hbq_4), (show 4 ≤ q_5.toInt ∧ q_5.toInt ≤ 40 from hbq_5), (show 0 ≤ q_6.toInt ∧ q_6.toInt ≤ 40 from hbq_6), (show 0 ≤ q_7.toInt ∧ q_7.toInt ≤ 24 from hbq_7), (show 0 ≤ q_10.toInt ∧ q_10.toInt ≤ 9 from hbq_10), hpg_19, hpq_13, hpq_14, hpq_15, hpq_16, hpq_17, hpq_18, (show zHS g_19 gsh from by (intro j hj; exact hHS j (hvi_25_0 j hj))), (show (nik.toInt = 0 ∧ (q_4 : Int32).toInt = -6 ∧ q_4.toInt = npu.toInt ∧ q_5.toInt = nte.toInt ∧ g_19 = ghe) ∨ (nik.toInt ≠ 0 ∧ (q_4 : Int32).toInt = (gke 107).toInt ∧ q_4.toInt = (gke 107).toInt ∧ q_5.toInt = (gke 108).toInt ∧ ∀ j : Nat, j < 8 → g_19 j = (if (ghe j).toInt = 2 ∧ (gke 107).toInt ≤ (gsh j).toInt then 0 else ghe j)) from by (have hq := hsr_2_6; have h9 : i_25.toInt = 8 := (by omega); refine Or.inr ⟨by omega, by rw [← hq.1], congrArg Int32.toInt hq.1, congrArg Int32.toInt hq.2.1, fun j hj => ?_⟩; have z := hvi_25_1 j; rw [z, ← hq.1]; by_cases h5 : (ghe j).toInt = 2 ∧ (q_4 : Int32).toInt ≤ (gsh j).toInt; (rw [if_pos ⟨by omega, h5⟩, if_pos h5]); (rw [if_neg (fun q => h5 q.2), if_neg h5]))), (show (nik.toInt = 0 ∧ q_13 = gki ∧ q_14 = gpa ∧ q_15 = gta ∧ q_16 = gla ∧ q_17 = gsl ∧ q_18 = gco ∧ q_6 = nat_ ∧ q_7 = nde ∧ q_8 = nto ∧ q_9 = nse ∧ q_10 = nhu ∧ q_11 = nga ∧ q_12 = nsd) ∨ (nik.toInt ≠ 0 ∧ (∀ j : Nat, j < 8 → q_13 j = gke (0 + j)) ∧ (∀ j : Nat, j < 8 → q_14 j = gke (8 + j)) ∧ (∀ j : Nat, j < 8 → q_15 j = gke (16 + j)) ∧ (∀ j : Nat, j < 40 → q_16 j = gke (24 + j)) ∧ (∀ j : Nat, j < 40 → q_17 j = gke (64 + j)) ∧ (∀ j : Nat, j < 3 → q_18 j = gke (104 + j)) ∧ q_6 = gke 109 ∧ q_7 = gke 110 ∧ q_8 = gke 111 ∧ q_9 = gke 112 ∧ q_10 = gke 113 ∧ q_11 = gke 114 ∧ q_12 = gke 115) from by (obtain ⟨y0, y1, y2, y3, y4, y5, y6, y7, y8⟩ := hsr_2_6; exact Or.inr ⟨by omega, hsr_2_0, hsr_2_1, hsr_2_2, hsr_2_3, hsr_2_4, hsr_2_5, y2, y3, y4, y5, y6, y7, y8⟩)), trivial⟩, zRet ht hP hD [3, 0, 1, 2, 4, 5, 6, 7, 8, 9, 10] (by decide) rfl⟩, hS.F ht⟩) hS.2.2 dX8_restore_71
      · exfalso; have fc_20 : i_25.toInt < 8 := zf_nle c_20 (by decide) rfl; omega
    | succ nfu ih =>
      intro i_25 g_19 H locs ls hP hD hS hl hpg_19 hvi_25_0 hvi_25_1 hvi_25_2 hloi_25 hni_25
      refine lv_iload_n hx hb dX8_restore_25 rfl (lv_at hl 0 rfl) ?_
      refine lv_bipush (v := 8) hx hb dX8_restore_26 (by decide) ?_
      refine lv_icmp_ge (tgt := 67) hx hb dX8_restore_28 (by decide) (fun c_21 => ?_) (fun c_21 => ?_)
      · have fc_21 : 8 ≤ i_25.toInt := zf_le c_21 (by decide) rfl
        refine lv_aload_n hx hb dX8_restore_67 rfl (lv_at hl 1 rfl) ?_
        refine va_get (D := D) (ci := 8) (v := .int q_4) (C := RX8) (T := TX8) (N := 38) hx hb hts hi_X8_restore_8 hown hK hP 3 rfl rfl 0 (by decide) (hts (.fieldLink RX8 90 "TheLiningsInItModel" "pulls" "I") (List.mem_of_getElem? (i := 5) rfl)) (fun _ h9 => h9) rfl dX8_restore_68 ?_
        exact W.iret (v := q_4) hx hb hr (fun t ht hW => ⟨⟨q_4, (q_4, q_5, q_6, q_7, q_8, q_9, q_10, q_11, q_12, grf, g_19, q_13, q_14, q_15, q_16, q_17, q_18), rfl, ⟨(show 0 ≤ q_4.toInt ∧ q_4.toInt ≤ 8 from hbq_4), (show 4 ≤ q_5.toInt ∧ q_5.toInt ≤ 40 from hbq_5), (show 0 ≤ q_6.toInt ∧ q_6.toInt ≤ 40 from hbq_6), (show 0 ≤ q_7.toInt ∧ q_7.toInt ≤ 24 from hbq_7), (show 0 ≤ q_10.toInt ∧ q_10.toInt ≤ 9 from hbq_10), hpg_19, hpq_13, hpq_14, hpq_15, hpq_16, hpq_17, hpq_18, (show zHS g_19 gsh from by (intro j hj; exact hHS j (hvi_25_0 j hj))), (show (nik.toInt = 0 ∧ (q_4 : Int32).toInt = -6 ∧ q_4.toInt = npu.toInt ∧ q_5.toInt = nte.toInt ∧ g_19 = ghe) ∨ (nik.toInt ≠ 0 ∧ (q_4 : Int32).toInt = (gke 107).toInt ∧ q_4.toInt = (gke 107).toInt ∧ q_5.toInt = (gke 108).toInt ∧ ∀ j : Nat, j < 8 → g_19 j = (if (ghe j).toInt = 2 ∧ (gke 107).toInt ≤ (gsh j).toInt then 0 else ghe j)) from by (have hq := hsr_2_6; have h9 : i_25.toInt = 8 := (by omega); refine Or.inr ⟨by omega, by rw [← hq.1], congrArg Int32.toInt hq.1, congrArg Int32.toInt hq.2.1, fun j hj => ?_⟩; have z := hvi_25_1 j; rw [z, ← hq.1]; by_cases h5 : (ghe j).toInt = 2 ∧ (q_4 : Int32).toInt ≤ (gsh j).toInt; (rw [if_pos ⟨by omega, h5⟩, if_pos h5]); (rw [if_neg (fun q => h5 q.2), if_neg h5]))), (show (nik.toInt = 0 ∧ q_13 = gki ∧ q_14 = gpa ∧ q_15 = gta ∧ q_16 = gla ∧ q_17 = gsl ∧ q_18 = gco ∧ q_6 = nat_ ∧ q_7 = nde ∧ q_8 = nto ∧ q_9 = nse ∧ q_10 = nhu ∧ q_11 = nga ∧ q_12 = nsd) ∨ (nik.toInt ≠ 0 ∧ (∀ j : Nat, j < 8 → q_13 j = gke (0 + j)) ∧ (∀ j : Nat, j < 8 → q_14 j = gke (8 + j)) ∧ (∀ j : Nat, j < 8 → q_15 j = gke (16 + j)) ∧ (∀ j : Nat, j < 40 → q_16 j = gke (24 + j)) ∧ (∀ j : Nat, j < 40 → q_17 j = gke (64 + j)) ∧ (∀ j : Nat, j < 3 → q_18 j = gke (104 + j)) ∧ q_6 = gke 109 ∧ q_7 = gke 110 ∧ q_8 = gke 111 ∧ q_9 = gke 112 ∧ q_10 = gke 113 ∧ q_11 = gke 114 ∧ q_12 = gke 115) from by (obtain ⟨y0, y1, y2, y3, y4, y5, y6, y7, y8⟩ := hsr_2_6; exact Or.inr ⟨by omega, hsr_2_0, hsr_2_1, hsr_2_2, hsr_2_3, hsr_2_4, hsr_2_5, y2, y3, y4, y5, y6, y7, y8⟩)), trivial⟩, zRet ht hP hD [3, 0, 1, 2, 4, 5, 6, 7, 8, 9, 10] (by decide) rfl⟩, hS.F ht⟩) hS.2.2 dX8_restore_71
      · have fc_21 : i_25.toInt < 8 := zf_nle c_21 (by decide) rfl
        refine lv_aload_n hx hb dX8_restore_31 rfl (lv_at hl 1 rfl) ?_
        refine va_get (D := D) (ci := 8) (v := .ref mhe) (C := RX8) (T := TX8) (N := 38) hx hb hts hi_X8_restore_8 hown hK hP 3 rfl rfl 17 (by decide) (hts (.fieldLink RX8 47 "TheLiningsInItModel" "held" "[I") (List.mem_of_getElem? (i := 3) rfl)) (fun _ h9 => h9) rfl dX8_restore_32 ?_
        refine lv_iload_n hx hb dX8_restore_35 rfl (lv_at hl 0 rfl) ?_
        refine va_iald hx hb hK hP 1 0 rfl rfl (zf_in (by omega) (by omega)) dX8_restore_36 ?_
        refine lv_topi (fun x_22 ex_22 => ?_)
        have bx_22 : 0 ≤ x_22.toInt ∧ x_22.toInt ≤ 2 := by rw [ex_22]; exact hpg_19 _
        refine lv_iconst (v := 2) hx hb dX8_restore_37 (by decide) ?_
        refine lv_icmp_ne (tgt := 61) hx hb dX8_restore_38 (by decide) (fun c_23 => ?_) (fun c_23 => ?_)
        · have fc_23 : x_22.toInt ≠ 2 := zf_ne c_23 rfl (by decide)
          obtain ⟨x_24, ex_24⟩ : ∃ y : Int32, y = i_25 + 1 := ⟨_, rfl⟩
          have qx_24 : x_24.toInt = i_25.toInt + 1 := dw_incK ex_24 fc_21 (by decide)
          refine lv_iinc (v := x_24) (lv' := [(1, .int x_24), (0, .ref m0)]) hx hb dX8_restore_61 hl (k := 0) rfl ex_24.symm (by decide) rfl (fun ls hl => ?_)
          refine lv_goto (tgt := 25) hx hb dX8_restore_64 (by decide) ?_
          exact ih x_24 (g_19) _ _ _ (hP.sub [0, 1, 2, 3, 4, 5, 6, 7, 8, 9, 10] rfl) (hD.sub [0, 1, 2, 3, 4, 5, 6, 7, 8, 9, 10] (by decide) rfl) hS (lv_sub hl [0, 1] rfl) hpg_19 (show (∀ j : Nat, (g_19 j).toInt = 2 → (ghe j).toInt = 2) from by exact hvi_25_0) (show (∀ j : Nat, g_19 j = (if (j : Int) < x_24.toInt ∧ (ghe j).toInt = 2 ∧ (q_4 : Int32).toInt ≤ (gsh j).toInt then 0 else ghe j)) from by exact zRst_S hvi_25_1 (by omega) ex_22 (by omega) (by first | exact Or.inl ⟨rfl, Or.inl (by omega)⟩)) (show x_24.toInt ≤ 8 from by omega) (dw_lo hloi_25 qx_24) (dw_hn hni_25 qx_24)
        · have fc_23 : x_22.toInt = 2 := zf_eq c_23 rfl (by decide)
          refine lv_aload_n hx hb dX8_restore_41 rfl (lv_at hl 1 rfl) ?_
          refine va_get (D := D) (ci := 8) (v := .ref msh) (C := RX8) (T := TX8) (N := 38) hx hb hts hi_X8_restore_8 hown hK hP 3 rfl rfl 20 (by decide) (hts (.fieldLink RX8 56 "TheLiningsInItModel" "shown" "[I") (List.mem_of_getElem? (i := 4) rfl)) (fun _ h9 => h9) rfl dX8_restore_42 ?_
          refine lv_iload_n hx hb dX8_restore_45 rfl (lv_at hl 0 rfl) ?_
          refine va_iald hx hb hK hP 2 0 rfl rfl (zf_in (by omega) (by omega)) dX8_restore_46 ?_
          refine lv_topi (fun x_25 ex_25 => ?_)
          have bx_25 : -1 ≤ x_25.toInt ∧ x_25.toInt ≤ 7 := by rw [ex_25]; exact hp_gsh _
          refine lv_aload_n hx hb dX8_restore_47 rfl (lv_at hl 1 rfl) ?_
          refine va_get (D := D) (ci := 8) (v := .int q_4) (C := RX8) (T := TX8) (N := 38) hx hb hts hi_X8_restore_8 hown hK hP 3 rfl rfl 0 (by decide) (hts (.fieldLink RX8 90 "TheLiningsInItModel" "pulls" "I") (List.mem_of_getElem? (i := 5) rfl)) (fun _ h9 => h9) rfl dX8_restore_48 ?_
          refine lv_icmp_lt (tgt := 61) hx hb dX8_restore_51 (by decide) (fun c_26 => ?_) (fun c_26 => ?_)
          · have fc_26 : x_25.toInt < q_4.toInt := zf_lt c_26 rfl rfl
            obtain ⟨x_27, ex_27⟩ : ∃ y : Int32, y = i_25 + 1 := ⟨_, rfl⟩
            have qx_27 : x_27.toInt = i_25.toInt + 1 := dw_incK ex_27 fc_21 (by decide)
            refine lv_iinc (v := x_27) (lv' := [(1, .int x_27), (0, .ref m0)]) hx hb dX8_restore_61 hl (k := 0) rfl ex_27.symm (by decide) rfl (fun ls hl => ?_)
            refine lv_goto (tgt := 25) hx hb dX8_restore_64 (by decide) ?_
            exact ih x_27 (g_19) _ _ _ (hP.sub [0, 1, 2, 3, 4, 5, 6, 7, 8, 9, 10] rfl) (hD.sub [0, 1, 2, 3, 4, 5, 6, 7, 8, 9, 10] (by decide) rfl) hS (lv_sub hl [0, 1] rfl) hpg_19 (show (∀ j : Nat, (g_19 j).toInt = 2 → (ghe j).toInt = 2) from by exact hvi_25_0) (show (∀ j : Nat, g_19 j = (if (j : Int) < x_27.toInt ∧ (ghe j).toInt = 2 ∧ (q_4 : Int32).toInt ≤ (gsh j).toInt then 0 else ghe j)) from by exact zRst_S hvi_25_1 (by omega) ex_22 (by omega) (by first | exact Or.inl ⟨rfl, Or.inl (by omega)⟩ | exact Or.inl ⟨rfl, Or.inr (by rw [← ex_25]; omega)⟩)) (show x_27.toInt ≤ 8 from by omega) (dw_lo hloi_25 qx_27) (dw_hn hni_25 qx_27)
          · have fc_26 : q_4.toInt ≤ x_25.toInt := zf_nlt c_26 rfl rfl
            refine lv_aload_n hx hb dX8_restore_54 rfl (lv_at hl 1 rfl) ?_
            refine va_get (D := D) (ci := 8) (v := .ref mhe) (C := RX8) (T := TX8) (N := 38) hx hb hts hi_X8_restore_8 hown hK hP 3 rfl rfl 17 (by decide) (hts (.fieldLink RX8 47 "TheLiningsInItModel" "held" "[I") (List.mem_of_getElem? (i := 3) rfl)) (fun _ h9 => h9) rfl dX8_restore_55 ?_
            refine lv_iload_n hx hb dX8_restore_58 rfl (lv_at hl 0 rfl) ?_
            refine lv_iconst (v := 0) hx hb dX8_restore_59 (by decide) ?_
            refine va_iast hx hb hK hP hD hS 1 0 rfl rfl (zf_in (by omega) (by omega)) dX8_restore_60 (fun H locs hP hD hS => ?_)
            have hpg_28 : zRg (upd g_19 i_25.toNatClampNeg 0) (0) 2 := zRg_upd hpg_19 (by decide) (by decide)
            obtain ⟨g_28, hg_28⟩ : ∃ g : Nat → Int32, g = upd g_19 i_25.toNatClampNeg 0 := ⟨_, rfl⟩
            rw [← hg_28] at hP hD hpg_28
            have h9R := zRe (ws' := [(mrf, .inl (cI, 8, .inl grf)), (mhe, .inl (cI, 8, .inl g_28)), (msh, .inl (cI, 8, .inl gsh)), (zMO m0 q_4 q_5 q_6 q_7 q_8 q_9 q_10 q_11 q_12 nfa mrf mki mpa mta mla msl mco mhe mso msi msh mce mca mwo mnu mte nba npl nen nnu nwr mwa mke mma mth mtr nra nik), (mki, .inl (cI, 8, .inl q_13)), (mpa, .inl (cI, 8, .inl q_14)), (mta, .inl (cI, 8, .inl q_15)), (mla, .inl (cI, 40, .inl q_16)), (msl, .inl (cI, 40, .inl q_17)), (mco, .inl (cI, 3, .inl q_18)), (mke, .inl (cI, 130, .inl gke))]) hP hD rfl
            clear hP hD
            obtain ⟨hP, hD⟩ := h9R
            obtain ⟨x_29, ex_29⟩ : ∃ y : Int32, y = i_25 + 1 := ⟨_, rfl⟩
            have qx_29 : x_29.toInt = i_25.toInt + 1 := dw_incK ex_29 fc_21 (by decide)
            refine lv_iinc (v := x_29) (lv' := [(1, .int x_29), (0, .ref m0)]) hx hb dX8_restore_61 hl (k := 0) rfl ex_29.symm (by decide) rfl (fun ls hl => ?_)
            refine lv_goto (tgt := 25) hx hb dX8_restore_64 (by decide) ?_
            exact ih x_29 (g_28) _ _ _ (hP.sub [0, 1, 2, 3, 4, 5, 6, 7, 8, 9, 10] rfl) (hD.sub [0, 1, 2, 3, 4, 5, 6, 7, 8, 9, 10] (by decide) rfl) hS (lv_sub hl [0, 1] rfl) hpg_28 (show (∀ j : Nat, (g_28 j).toInt = 2 → (ghe j).toInt = 2) from by (intro j hj; rw [hg_28] at hj; simp only [upd] at hj; exact (Classical.em (j = i_25.toNatClampNeg)).elim (fun e9 => by (rw [if_pos e9] at hj; exact absurd hj (by decide))) (fun e9 => by (rw [if_neg e9] at hj; exact hvi_25_0 j hj)))) (show (∀ j : Nat, g_28 j = (if (j : Int) < x_29.toInt ∧ (ghe j).toInt = 2 ∧ (q_4 : Int32).toInt ≤ (gsh j).toInt then 0 else ghe j)) from by exact zRst_S hvi_25_1 (by omega) ex_22 (by omega) (by first | exact Or.inr ⟨hg_28, by omega, by rw [← ex_25]; omega⟩)) (show x_29.toInt ≤ 8 from by omega) (dw_lo hloi_25 qx_29) (dw_hn hni_25 qx_29)
  · have fc_1 : nik.toInt = 0 := zf_eq c_1 rfl (by decide)
    refine lv_aload_n hx hb dX8_restore_7 rfl (lv_at hl 0 rfl) ?_
    refine lv_bipush (v := (-6)) hx hb dX8_restore_8 (by decide) ?_
    skip
    refine zw_V (As := [.int (-6)]) (rest := []) (wr := [(mhe, .inl (cI, 8, .inl ghe)), (msh, .inl (cI, 8, .inl gsh)), (mki, .inl (cI, 8, .inl gki)), (mpa, .inl (cI, 8, .inl gpa)), (mta, .inl (cI, 8, .inl gta)), (mla, .inl (cI, 40, .inl gla)), (msl, .inl (cI, 40, .inl gsl)), (mco, .inl (cI, 3, .inl gco)), (mke, .inl (cI, 130, .inl gke))]) ⟨hx, hb, hml, hown, hts⟩ (c_M_no_6 l D cI cJ cZ cP cS po m0 mrf mki mpa mta mla msl mco mhe mso msi msh mce mca mwo mnu mte mwa mke mma mth mtr (npu) (nte) (nat_) (nde) (nto) (nse) (nhu) (nga) (nsd) (nfa) (nba) (npl) (nen) (nnu) (nwr) (nra) (nik) grf hy0 hy1 hy2 hy3 hy4 hy5 hy6 hy7 hy8 hy9 hy10 hy11 hy12 hy13 H.size) (cwV 1 hts gX8_restore_X8_no rfl rfl rfl ⟨rfl, dh_X8_no⟩ ⟨Nat.le_of_ble_eq_true rfl, Nat.le_of_ble_eq_true rfl⟩) hK hN (hZ.kept hS) hP hD hS hA [0, 1] [2, 3, 4, 5, 6, 7, 8, 9, 10] rfl rfl (by decide) (by decide) (by decide) (va_recv (q := (RX8, TX8, 38)) hK hP (ci := 8) (q0 := 0) rfl rfl) rfl hl.1 rfl (Nat.le_of_ble_eq_true rfl) dX8_restore_10 ⟨Nat.le_of_ble_eq_true rfl, Nat.le_of_ble_eq_true rfl⟩ (fun r_30 u_31 H locs hr_30 hP hD hS => ?_)
    obtain ⟨q_32, rfl⟩ : ∃ z, z = u_31 := ⟨_, rfl⟩
    have h9R := zRe (ws' := [(mhe, .inl (cI, 8, .inl ghe)), (msh, .inl (cI, 8, .inl gsh)), (mki, .inl (cI, 8, .inl gki)), (mpa, .inl (cI, 8, .inl gpa)), (mta, .inl (cI, 8, .inl gta)), (mla, .inl (cI, 40, .inl gla)), (msl, .inl (cI, 40, .inl gsl)), (mco, .inl (cI, 3, .inl gco)), (mke, .inl (cI, 130, .inl gke)), (zMO m0 npu nte nat_ nde nto nse nhu nga nsd nfa mrf mki mpa mta mla msl mco mhe mso msi msh mce mca mwo mnu mte nba npl nen nnu nwr mwa mke mma mth mtr nra nik), (mrf, .inl (cI, 8, .inl q_32))]) hP hD rfl
    clear hP hD
    obtain ⟨hP, hD⟩ := h9R
    obtain rfl := hr_30
    exact W.iret (v := (-6)) hx hb hr (fun t ht hW => ⟨⟨(-6), (npu, nte, nat_, nde, nto, nse, nhu, nga, nsd, q_32, ghe, gki, gpa, gta, gla, gsl, gco), rfl, ⟨(show 0 ≤ npu.toInt ∧ npu.toInt ≤ 8 from ⟨hy0, hy1⟩), (show 4 ≤ nte.toInt ∧ nte.toInt ≤ 40 from ⟨hy2, hy3⟩), (show 0 ≤ nat_.toInt ∧ nat_.toInt ≤ 40 from ⟨hy4, hy5⟩), (show 0 ≤ nde.toInt ∧ nde.toInt ≤ 24 from ⟨hy6, hy7⟩), (show 0 ≤ nhu.toInt ∧ nhu.toInt ≤ 9 from ⟨hy8, hy9⟩), hp_ghe, hp_gki, hp_gpa, hp_gta, hp_gla, hp_gsl, hp_gco, (show zHS ghe gsh from by exact hHS), (show (nik.toInt = 0 ∧ ((-6) : Int32).toInt = -6 ∧ npu.toInt = npu.toInt ∧ nte.toInt = nte.toInt ∧ ghe = ghe) ∨ (nik.toInt ≠ 0 ∧ ((-6) : Int32).toInt = (gke 107).toInt ∧ npu.toInt = (gke 107).toInt ∧ nte.toInt = (gke 108).toInt ∧ ∀ j : Nat, j < 8 → ghe j = (if (ghe j).toInt = 2 ∧ (gke 107).toInt ≤ (gsh j).toInt then 0 else ghe j)) from by (have k9 : ((-6) : Int32).toInt = -6 := (by decide); exact Or.inl ⟨by omega, by omega, rfl, rfl, rfl⟩)), (show (nik.toInt = 0 ∧ gki = gki ∧ gpa = gpa ∧ gta = gta ∧ gla = gla ∧ gsl = gsl ∧ gco = gco ∧ nat_ = nat_ ∧ nde = nde ∧ nto = nto ∧ nse = nse ∧ nhu = nhu ∧ nga = nga ∧ nsd = nsd) ∨ (nik.toInt ≠ 0 ∧ (∀ j : Nat, j < 8 → gki j = gke (0 + j)) ∧ (∀ j : Nat, j < 8 → gpa j = gke (8 + j)) ∧ (∀ j : Nat, j < 8 → gta j = gke (16 + j)) ∧ (∀ j : Nat, j < 40 → gla j = gke (24 + j)) ∧ (∀ j : Nat, j < 40 → gsl j = gke (64 + j)) ∧ (∀ j : Nat, j < 3 → gco j = gke (104 + j)) ∧ nat_ = gke 109 ∧ nde = gke 110 ∧ nto = gke 111 ∧ nse = gke 112 ∧ nhu = gke 113 ∧ nga = gke 114 ∧ nsd = gke 115) from by (have k9 : ((-6) : Int32).toInt = -6 := (by decide); exact Or.inl ⟨by omega, rfl, rfl, rfl, rfl, rfl, rfl, rfl, rfl, rfl, rfl, rfl, rfl, rfl⟩)), trivial⟩, zRet ht hP hD [9, 10, 0, 1, 2, 3, 4, 5, 6, 7, 8] (by decide) rfl⟩, hS.F ht⟩) hS.2.2 dX8_restore_13
end
section
set_option maxHeartbeats 4000000 in
set_option maxRecDepth 100000 in
theorem c_F_Zip_lacksAt (l : Launch) (D : va_G) (cI cJ cZ cP cS : ClassId) (po : zPool) (z0 zl zs : Nat) (sz at_ gp : Int32) (fl fs : Nat → Int32) (tt : Int32) (hy0 : 4 ≤ sz.toInt) (hy1 : sz.toInt ≤ 40) (hy2 : 0 ≤ at_.toInt) (hy3 : at_.toInt ≤ 40) (hy4 : 1 ≤ gp.toInt) (hy5 : gp.toInt ≤ 9) (hp_fl : zRg fl (0) 1) : Met l yX6_lacksAt wsX6_lacksAt ({ frames := 1, cells := 0, slots := 0, locals := 21 }) (va_Pc [.ref z0, .int tt] (zR D (zKT cI cJ cZ cP cS) po [(z0, .inr (6, [.ref zl, .ref zs, .int sz, .int at_, .int gp])), (zl, .inl (cZ, 40, .inl fl))])) (vp_Si (fun r => 0 ≤ r.toInt ∧ r.toInt ≤ 1 ∧ ((r.toInt = 1 → zLkA fl sz.toInt tt.toInt) ∧ (r.toInt = 0 → ¬ zLkA fl sz.toInt tt.toInt)))) 0 0 (fun _ => False) := by
  refine Met.ofW (cc := cX6_lacksAt) (maxL := 2) (ret := (some .boolean)) (by decide) rfl ?_
  intro p e s m args below meth c s₁ B hml hv
  obtain ⟨rfl, hP, hK, hN, hZ⟩ := hv
  have hx := B.exec
  have hb := B.bytes
  have hr := B.returns
  have hts := atoms_spec (ws := wsX6_lacksAt) B.pre
  have hown : s.vm.findClass RX6 = some m.cls := findClass_of_methodNamed B.named
  have hlocks := B.notSynchronized
  have hl := lv_entry ([.ref z0, .int tt]) (n := 2) (Nat.le_of_ble_eq_true rfl)
  rw [lg_entry_eq]
  generalize (lg_sl ([.ref z0, .int tt]) ++ List.replicate (2 - (lg_sl ([.ref z0, .int tt])).length) Slot.unset).toArray = ls at hl ⊢
  replace hl : lv_has ls 2 [(0, .ref z0), (1, .int tt)] := hl
  refine lv_aload_n hx hb dX6_lacksAt_0 rfl (lv_at hl 0 rfl) ?_
  refine lv_iload_n hx hb dX6_lacksAt_1 rfl (lv_at hl 1 rfl) ?_
  refine zc_V (As := [.int tt]) (rest := []) ⟨hx, hb, hml, hown, hts⟩ (c_Zip_has l D cI cJ cZ cP cS po z0 zl zs (sz) (at_) (gp) (tt) ) (cwV 1 hts gX6_lacksAt_X6_has rfl rfl rfl ⟨rfl, dh_X6_has⟩ ⟨Nat.le_of_ble_eq_true rfl, Nat.le_of_ble_eq_true rfl⟩) hK hN hZ hP (hP.sub [0] rfl) (va_recv (q := (RX6, TX6, 5)) hK hP (ci := 6) (q0 := 0) rfl rfl) rfl hl.1 rfl (Nat.le_of_ble_eq_true rfl) dX6_lacksAt_2 ⟨Nat.le_of_ble_eq_true rfl, Nat.le_of_ble_eq_true rfl⟩ (fun r_1 hr_1 => ?_)
  rcases hr_1 with ⟨rfl, g_2⟩ | ⟨rfl, g_3, g_4⟩ | ⟨rfl, g_5, g_6⟩
  · refine lv_if_eq (tgt := 21) hx hb dX6_lacksAt_5 (by decide) (fun c_7 => ?_) (fun c_7 => ?_)
    · refine lv_iconst (v := 0) hx hb dX6_lacksAt_21 (by decide) ?_
      exact W.zret (v := 0) hx hb hr (by decide) (fun t ht hW => ⟨0, rfl, ⟨by decide, by decide, (show ((0 : Int32).toInt = 1 → zLkA fl sz.toInt tt.toInt) ∧ ((0 : Int32).toInt = 0 → ¬ zLkA fl sz.toInt tt.toInt) from by (exact ⟨fun h => absurd h (by decide), fun _ => fun z => by (have z1 := z.1; have z2 := z.2.1; omega)⟩))⟩, ht⟩) (fun q hq => by cases hq) dX6_lacksAt_22
    · exact absurd c_7 (by decide)
  · refine lv_if_eq (tgt := 21) hx hb dX6_lacksAt_5 (by decide) (fun c_8 => ?_) (fun c_8 => ?_)
    · refine lv_iconst (v := 0) hx hb dX6_lacksAt_21 (by decide) ?_
      exact W.zret (v := 0) hx hb hr (by decide) (fun t ht hW => ⟨0, rfl, ⟨by decide, by decide, (show ((0 : Int32).toInt = 1 → zLkA fl sz.toInt tt.toInt) ∧ ((0 : Int32).toInt = 0 → ¬ zLkA fl sz.toInt tt.toInt) from by (exact ⟨fun h => absurd h (by decide), fun _ => fun z => by (have z1 := z.1; have z2 := z.2.1; omega)⟩))⟩, ht⟩) (fun q hq => by cases hq) dX6_lacksAt_22
    · exact absurd c_8 (by decide)
  · refine lv_if_eq (tgt := 21) hx hb dX6_lacksAt_5 (by decide) (fun c_9 => ?_) (fun c_9 => ?_)
    · exact absurd c_9 (by decide)
    · refine lv_aload_n hx hb dX6_lacksAt_8 rfl (lv_at hl 0 rfl) ?_
      refine va_get (D := D) (ci := 6) (v := .ref zl) (C := RX6) (T := TX6) (N := 5) hx hb hts hi_X6_lacksAt_6 hown hK hP 0 rfl rfl 0 (by decide) (hts (.fieldLink RX6 9 "TheLiningsInIt$Zip" "lacking" "[Z") (List.mem_of_getElem? (i := 1) rfl)) (fun _ h9 => h9) rfl dX6_lacksAt_9 ?_
      refine lv_iload_n hx hb dX6_lacksAt_12 rfl (lv_at hl 1 rfl) ?_
      refine va_zald hx hb hK hP 1 2 rfl rfl (zf_in (by omega) (by omega)) dX6_lacksAt_13 ?_
      refine lv_topi (fun x_10 ex_10 => ?_)
      have bx_10 : 0 ≤ x_10.toInt ∧ x_10.toInt ≤ 1 := by rw [ex_10]; exact hp_fl _
      refine lv_if_eq (tgt := 21) hx hb dX6_lacksAt_14 (by decide) (fun c_11 => ?_) (fun c_11 => ?_)
      · have fc_11 : x_10.toInt = 0 := zf_eq c_11 rfl (by decide)
        refine lv_iconst (v := 0) hx hb dX6_lacksAt_21 (by decide) ?_
        exact W.zret (v := 0) hx hb hr (by decide) (fun t ht hW => ⟨0, rfl, ⟨by decide, by decide, (show ((0 : Int32).toInt = 1 → zLkA fl sz.toInt tt.toInt) ∧ ((0 : Int32).toInt = 0 → ¬ zLkA fl sz.toInt tt.toInt) from by (have h8 : (fl tt.toInt.toNat).toInt = x_10.toInt := (by rw [ex_10]; rfl); exact ⟨fun h => absurd h (by decide), fun _ => fun z => by (have z3 := z.2.2; omega)⟩))⟩, ht⟩) (fun q hq => by cases hq) dX6_lacksAt_22
      · have fc_11 : x_10.toInt ≠ 0 := zf_ne c_11 rfl (by decide)
        refine lv_iconst (v := 1) hx hb dX6_lacksAt_17 (by decide) ?_
        refine lv_goto (tgt := 22) hx hb dX6_lacksAt_18 (by decide) ?_
        exact W.zret (v := 1) hx hb hr (by decide) (fun t ht hW => ⟨1, rfl, ⟨by decide, by decide, (show ((1 : Int32).toInt = 1 → zLkA fl sz.toInt tt.toInt) ∧ ((1 : Int32).toInt = 0 → ¬ zLkA fl sz.toInt tt.toInt) from by (have h8 : (fl tt.toInt.toNat).toInt = x_10.toInt := (by rw [ex_10]; rfl); exact ⟨fun _ => ⟨by omega, by omega, by omega⟩, fun h => absurd h (by decide)⟩))⟩, ht⟩) (fun q hq => by cases hq) dX6_lacksAt_22
set_option maxHeartbeats 4000000 in
set_option maxRecDepth 100000 in
theorem c_F_Zip_catchesAt (l : Launch) (D : va_G) (cI cJ cZ cP cS : ClassId) (po : zPool) (z0 zl zs : Nat) (sz at_ gp : Int32) (fl fs : Nat → Int32) (tt : Int32) (hy0 : 4 ≤ sz.toInt) (hy1 : sz.toInt ≤ 40) (hy2 : 0 ≤ at_.toInt) (hy3 : at_.toInt ≤ 40) (hy4 : 1 ≤ gp.toInt) (hy5 : gp.toInt ≤ 9) (hp_fl : zRg fl (0) 1) (hp_fs : zRg fs (0) 9) : Met l yX6_catchesAt wsX6_catchesAt ({ frames := 1, cells := 0, slots := 0, locals := 21 }) (va_Pc [.ref z0, .int tt] (zR D (zKT cI cJ cZ cP cS) po [(z0, .inr (6, [.ref zl, .ref zs, .int sz, .int at_, .int gp])), (zl, .inl (cZ, 40, .inl fl)), (zs, .inl (cI, 40, .inl fs))])) (vp_Si (fun r => 0 ≤ r.toInt ∧ r.toInt ≤ 1 ∧ ((r.toInt = 1 → (0 ≤ tt.toInt ∧ tt.toInt < sz.toInt ∧ zCa fl fs gp.toInt tt.toInt)) ∧ (r.toInt = 0 → ¬ (0 ≤ tt.toInt ∧ tt.toInt < sz.toInt ∧ zCa fl fs gp.toInt tt.toInt))))) 0 0 (fun _ => False) := by
  refine Met.ofW (cc := cX6_catchesAt) (maxL := 2) (ret := (some .boolean)) (by decide) rfl ?_
  intro p e s m args below meth c s₁ B hml hv
  obtain ⟨rfl, hP, hK, hN, hZ⟩ := hv
  have hx := B.exec
  have hb := B.bytes
  have hr := B.returns
  have hts := atoms_spec (ws := wsX6_catchesAt) B.pre
  have hown : s.vm.findClass RX6 = some m.cls := findClass_of_methodNamed B.named
  have hlocks := B.notSynchronized
  have hl := lv_entry ([.ref z0, .int tt]) (n := 2) (Nat.le_of_ble_eq_true rfl)
  rw [lg_entry_eq]
  generalize (lg_sl ([.ref z0, .int tt]) ++ List.replicate (2 - (lg_sl ([.ref z0, .int tt])).length) Slot.unset).toArray = ls at hl ⊢
  replace hl : lv_has ls 2 [(0, .ref z0), (1, .int tt)] := hl
  refine lv_aload_n hx hb dX6_catchesAt_0 rfl (lv_at hl 0 rfl) ?_
  refine lv_iload_n hx hb dX6_catchesAt_1 rfl (lv_at hl 1 rfl) ?_
  refine zc_V (As := [.int tt]) (rest := []) ⟨hx, hb, hml, hown, hts⟩ (c_Zip_has l D cI cJ cZ cP cS po z0 zl zs (sz) (at_) (gp) (tt) ) (cwV 1 hts gX6_catchesAt_X6_has rfl rfl rfl ⟨rfl, dh_X6_has⟩ ⟨Nat.le_of_ble_eq_true rfl, Nat.le_of_ble_eq_true rfl⟩) hK hN hZ hP (hP.sub [0] rfl) (va_recv (q := (RX6, TX6, 5)) hK hP (ci := 6) (q0 := 0) rfl rfl) rfl hl.1 rfl (Nat.le_of_ble_eq_true rfl) dX6_catchesAt_2 ⟨Nat.le_of_ble_eq_true rfl, Nat.le_of_ble_eq_true rfl⟩ (fun r_1 hr_1 => ?_)
  rcases hr_1 with ⟨rfl, g_2⟩ | ⟨rfl, g_3, g_4⟩ | ⟨rfl, g_5, g_6⟩
  · refine lv_if_eq (tgt := 34) hx hb dX6_catchesAt_5 (by decide) (fun c_7 => ?_) (fun c_7 => ?_)
    · refine lv_iconst (v := 0) hx hb dX6_catchesAt_34 (by decide) ?_
      exact W.zret (v := 0) hx hb hr (by decide) (fun t ht hW => ⟨0, rfl, ⟨by decide, by decide, (show ((0 : Int32).toInt = 1 → (0 ≤ tt.toInt ∧ tt.toInt < sz.toInt ∧ zCa fl fs gp.toInt tt.toInt)) ∧ ((0 : Int32).toInt = 0 → ¬ (0 ≤ tt.toInt ∧ tt.toInt < sz.toInt ∧ zCa fl fs gp.toInt tt.toInt)) from by (exact ⟨fun h => absurd h (by decide), fun _ => fun z => by (obtain ⟨z1, z2, z3, z4⟩ := z; omega)⟩))⟩, ht⟩) (fun q hq => by cases hq) dX6_catchesAt_35
    · exact absurd c_7 (by decide)
  · refine lv_if_eq (tgt := 34) hx hb dX6_catchesAt_5 (by decide) (fun c_8 => ?_) (fun c_8 => ?_)
    · refine lv_iconst (v := 0) hx hb dX6_catchesAt_34 (by decide) ?_
      exact W.zret (v := 0) hx hb hr (by decide) (fun t ht hW => ⟨0, rfl, ⟨by decide, by decide, (show ((0 : Int32).toInt = 1 → (0 ≤ tt.toInt ∧ tt.toInt < sz.toInt ∧ zCa fl fs gp.toInt tt.toInt)) ∧ ((0 : Int32).toInt = 0 → ¬ (0 ≤ tt.toInt ∧ tt.toInt < sz.toInt ∧ zCa fl fs gp.toInt tt.toInt)) from by (exact ⟨fun h => absurd h (by decide), fun _ => fun z => by (obtain ⟨z1, z2, z3, z4⟩ := z; omega)⟩))⟩, ht⟩) (fun q hq => by cases hq) dX6_catchesAt_35
    · exact absurd c_8 (by decide)
  · refine lv_if_eq (tgt := 34) hx hb dX6_catchesAt_5 (by decide) (fun c_9 => ?_) (fun c_9 => ?_)
    · exact absurd c_9 (by decide)
    · refine lv_aload_n hx hb dX6_catchesAt_8 rfl (lv_at hl 0 rfl) ?_
      refine va_get (D := D) (ci := 6) (v := .ref zl) (C := RX6) (T := TX6) (N := 5) hx hb hts hi_X6_catchesAt_6 hown hK hP 0 rfl rfl 0 (by decide) (hts (.fieldLink RX6 9 "TheLiningsInIt$Zip" "lacking" "[Z") (List.mem_of_getElem? (i := 1) rfl)) (fun _ h9 => h9) rfl dX6_catchesAt_9 ?_
      refine lv_iload_n hx hb dX6_catchesAt_12 rfl (lv_at hl 1 rfl) ?_
      refine va_zald hx hb hK hP 1 2 rfl rfl (zf_in (by omega) (by omega)) dX6_catchesAt_13 ?_
      refine lv_topi (fun x_10 ex_10 => ?_)
      have bx_10 : 0 ≤ x_10.toInt ∧ x_10.toInt ≤ 1 := by rw [ex_10]; exact hp_fl _
      refine lv_if_ne (tgt := 34) hx hb dX6_catchesAt_14 (by decide) (fun c_11 => ?_) (fun c_11 => ?_)
      · have fc_11 : x_10.toInt ≠ 0 := zf_ne c_11 rfl (by decide)
        refine lv_iconst (v := 0) hx hb dX6_catchesAt_34 (by decide) ?_
        exact W.zret (v := 0) hx hb hr (by decide) (fun t ht hW => ⟨0, rfl, ⟨by decide, by decide, (show ((0 : Int32).toInt = 1 → (0 ≤ tt.toInt ∧ tt.toInt < sz.toInt ∧ zCa fl fs gp.toInt tt.toInt)) ∧ ((0 : Int32).toInt = 0 → ¬ (0 ≤ tt.toInt ∧ tt.toInt < sz.toInt ∧ zCa fl fs gp.toInt tt.toInt)) from by (have h8 : (fl tt.toInt.toNat).toInt = x_10.toInt := (by rw [ex_10]; rfl); exact ⟨fun h => absurd h (by decide), fun _ => fun z => by (obtain ⟨z1, z2, z3, z4⟩ := z; omega)⟩))⟩, ht⟩) (fun q hq => by cases hq) dX6_catchesAt_35
      · have fc_11 : x_10.toInt = 0 := zf_eq c_11 rfl (by decide)
        refine lv_aload_n hx hb dX6_catchesAt_17 rfl (lv_at hl 0 rfl) ?_
        refine va_get (D := D) (ci := 6) (v := .ref zs) (C := RX6) (T := TX6) (N := 5) hx hb hts hi_X6_catchesAt_6 hown hK hP 0 rfl rfl 1 (by decide) (hts (.fieldLink RX6 15 "TheLiningsInIt$Zip" "slacks" "[I") (List.mem_of_getElem? (i := 2) rfl)) (fun _ h9 => h9) rfl dX6_catchesAt_18 ?_
        refine lv_iload_n hx hb dX6_catchesAt_21 rfl (lv_at hl 1 rfl) ?_
        refine va_iald hx hb hK hP 2 0 rfl rfl (zf_in (by omega) (by omega)) dX6_catchesAt_22 ?_
        refine lv_topi (fun x_12 ex_12 => ?_)
        have bx_12 : 0 ≤ x_12.toInt ∧ x_12.toInt ≤ 9 := by rw [ex_12]; exact hp_fs _
        refine lv_aload_n hx hb dX6_catchesAt_23 rfl (lv_at hl 0 rfl) ?_
        refine va_get (D := D) (ci := 6) (v := .int gp) (C := RX6) (T := TX6) (N := 5) hx hb hts hi_X6_catchesAt_6 hown hK hP 0 rfl rfl 4 (by decide) (hts (.fieldLink RX6 26 "TheLiningsInIt$Zip" "gap" "I") (List.mem_of_getElem? (i := 3) rfl)) (fun _ h9 => h9) rfl dX6_catchesAt_24 ?_
        refine lv_icmp_lt (tgt := 34) hx hb dX6_catchesAt_27 (by decide) (fun c_13 => ?_) (fun c_13 => ?_)
        · have fc_13 : x_12.toInt < gp.toInt := zf_lt c_13 rfl rfl
          refine lv_iconst (v := 0) hx hb dX6_catchesAt_34 (by decide) ?_
          exact W.zret (v := 0) hx hb hr (by decide) (fun t ht hW => ⟨0, rfl, ⟨by decide, by decide, (show ((0 : Int32).toInt = 1 → (0 ≤ tt.toInt ∧ tt.toInt < sz.toInt ∧ zCa fl fs gp.toInt tt.toInt)) ∧ ((0 : Int32).toInt = 0 → ¬ (0 ≤ tt.toInt ∧ tt.toInt < sz.toInt ∧ zCa fl fs gp.toInt tt.toInt)) from by (have h8 : (fl tt.toInt.toNat).toInt = x_10.toInt := (by rw [ex_10]; rfl); have h9 : (fs tt.toInt.toNat).toInt = x_12.toInt := (by rw [ex_12]; rfl); exact ⟨fun h => absurd h (by decide), fun _ => fun z => by (obtain ⟨z1, z2, z3, z4⟩ := z; omega)⟩))⟩, ht⟩) (fun q hq => by cases hq) dX6_catchesAt_35
        · have fc_13 : gp.toInt ≤ x_12.toInt := zf_nlt c_13 rfl rfl
          refine lv_iconst (v := 1) hx hb dX6_catchesAt_30 (by decide) ?_
          refine lv_goto (tgt := 35) hx hb dX6_catchesAt_31 (by decide) ?_
          exact W.zret (v := 1) hx hb hr (by decide) (fun t ht hW => ⟨1, rfl, ⟨by decide, by decide, (show ((1 : Int32).toInt = 1 → (0 ≤ tt.toInt ∧ tt.toInt < sz.toInt ∧ zCa fl fs gp.toInt tt.toInt)) ∧ ((1 : Int32).toInt = 0 → ¬ (0 ≤ tt.toInt ∧ tt.toInt < sz.toInt ∧ zCa fl fs gp.toInt tt.toInt)) from by (have h8 : (fl tt.toInt.toNat).toInt = x_10.toInt := (by rw [ex_10]; rfl); have h9 : (fs tt.toInt.toNat).toInt = x_12.toInt := (by rw [ex_12]; rfl); exact ⟨fun _ => ⟨by omega, by omega, by omega, by omega⟩, fun h => absurd h (by decide)⟩))⟩, ht⟩) (fun q hq => by cases hq) dX6_catchesAt_35
set_option maxHeartbeats 4000000 in
set_option maxRecDepth 100000 in
theorem c_F_Zip_lacks3 (l : Launch) (D : va_G) (cI cJ cZ cP cS : ClassId) (po : zPool) (z0 zl zs : Nat) (sz at_ gp : Int32) (fl fs : Nat → Int32) (tt : Int32) (hy0 : 4 ≤ sz.toInt) (hy1 : sz.toInt ≤ 40) (hy2 : 0 ≤ at_.toInt) (hy3 : at_.toInt ≤ 40) (hy4 : 1 ≤ gp.toInt) (hy5 : gp.toInt ≤ 9) (hy6 : 0 ≤ tt.toInt) (hy7 : tt.toInt ≤ 39) (hp_fl : zRg fl (0) 1) : Met l yX6_lacksThreeFrom wsX6_lacksThreeFrom ({ frames := 2, cells := 0, slots := 0, locals := 42 }) (va_Pc [.ref z0, .int tt] (zR D (zKT cI cJ cZ cP cS) po [(z0, .inr (6, [.ref zl, .ref zs, .int sz, .int at_, .int gp])), (zl, .inl (cZ, 40, .inl fl))])) (vp_Si (fun r => 0 ≤ r.toInt ∧ r.toInt ≤ 1 ∧ ((r.toInt = 1 → zOp fl sz.toInt tt.toInt) ∧ (r.toInt = 0 → ¬ zOp fl sz.toInt tt.toInt)))) 0 0 (fun _ => False) := by
  refine Met.ofW (cc := cX6_lacksThreeFrom) (maxL := 2) (ret := (some .boolean)) (by decide) rfl ?_
  intro p e s m args below meth c s₁ B hml hv
  obtain ⟨rfl, hP, hK, hN, hZ⟩ := hv
  have hx := B.exec
  have hb := B.bytes
  have hr := B.returns
  have hts := atoms_spec (ws := wsX6_lacksThreeFrom) B.pre
  have hown : s.vm.findClass RX6 = some m.cls := findClass_of_methodNamed B.named
  have hlocks := B.notSynchronized
  have hl := lv_entry ([.ref z0, .int tt]) (n := 2) (Nat.le_of_ble_eq_true rfl)
  rw [lg_entry_eq]
  generalize (lg_sl ([.ref z0, .int tt]) ++ List.replicate (2 - (lg_sl ([.ref z0, .int tt])).length) Slot.unset).toArray = ls at hl ⊢
  replace hl : lv_has ls 2 [(0, .ref z0), (1, .int tt)] := hl
  refine lv_aload_n hx hb dX6_lacksThreeFrom_0 rfl (lv_at hl 0 rfl) ?_
  refine lv_iload_n hx hb dX6_lacksThreeFrom_1 rfl (lv_at hl 1 rfl) ?_
  refine zc_V (As := [.int tt]) (rest := []) ⟨hx, hb, hml, hown, hts⟩ (c_F_Zip_lacksAt l D cI cJ cZ cP cS po z0 zl zs (sz) (at_) (gp) fl ((fun _ => 0)) (tt) hy0 hy1 hy2 hy3 hy4 hy5 hp_fl) (cwV 1 hts gX6_lacksThreeFrom_X6_lacksAt rfl rfl rfl ⟨rfl, dh_X6_lacksAt⟩ ⟨Nat.le_of_ble_eq_true rfl, Nat.le_of_ble_eq_true rfl⟩) hK hN hZ hP (hP.sub [0, 1] rfl) (va_recv (q := (RX6, TX6, 5)) hK hP (ci := 6) (q0 := 0) rfl rfl) rfl hl.1 rfl (Nat.le_of_ble_eq_true rfl) dX6_lacksThreeFrom_2 ⟨Nat.le_of_ble_eq_true rfl, Nat.le_of_ble_eq_true rfl⟩ (fun r_1 hr_1 => ?_)
  obtain ⟨g_2, g_3, hsr_1_0⟩ := hr_1
  refine lv_if_eq (tgt := 32) hx hb dX6_lacksThreeFrom_5 (by decide) (fun c_4 => ?_) (fun c_4 => ?_)
  · have fc_4 : r_1.toInt = 0 := zf_eq c_4 rfl (by decide)
    refine lv_iconst (v := 0) hx hb dX6_lacksThreeFrom_32 (by decide) ?_
    exact W.zret (v := 0) hx hb hr (by decide) (fun t ht hW => ⟨0, rfl, ⟨by decide, by decide, (show ((0 : Int32).toInt = 1 → zOp fl sz.toInt tt.toInt) ∧ ((0 : Int32).toInt = 0 → ¬ zOp fl sz.toInt tt.toInt) from by (have y0 := hsr_1_0; exact ⟨fun h => absurd h (by decide), fun _ => fun z => y0.2 (by omega) z.1⟩))⟩, ht⟩) (fun q hq => by cases hq) dX6_lacksThreeFrom_33
  · have fc_4 : r_1.toInt ≠ 0 := zf_ne c_4 rfl (by decide)
    refine lv_aload_n hx hb dX6_lacksThreeFrom_8 rfl (lv_at hl 0 rfl) ?_
    refine lv_iload_n hx hb dX6_lacksThreeFrom_9 rfl (lv_at hl 1 rfl) ?_
    refine lv_iconst (v := 1) hx hb dX6_lacksThreeFrom_10 (by decide) ?_
    refine lv_iadd hx hb dX6_lacksThreeFrom_11 ?_
    refine lv_topi (fun x_5 ex_5 => ?_)
    have qx_5 : x_5.toInt = tt.toInt + 1 := by rw [ex_5]; exact zf_add rfl (by decide) (by omega) (by omega)
    refine zc_V (As := [.int x_5]) (rest := []) ⟨hx, hb, hml, hown, hts⟩ (c_F_Zip_lacksAt l D cI cJ cZ cP cS po z0 zl zs (sz) (at_) (gp) fl ((fun _ => 0)) (x_5) hy0 hy1 hy2 hy3 hy4 hy5 hp_fl) (cwV 1 hts gX6_lacksThreeFrom_X6_lacksAt rfl rfl rfl ⟨rfl, dh_X6_lacksAt⟩ ⟨Nat.le_of_ble_eq_true rfl, Nat.le_of_ble_eq_true rfl⟩) hK hN hZ hP (hP.sub [0, 1] rfl) (va_recv (q := (RX6, TX6, 5)) hK hP (ci := 6) (q0 := 0) rfl rfl) rfl hl.1 rfl (Nat.le_of_ble_eq_true rfl) dX6_lacksThreeFrom_12 ⟨Nat.le_of_ble_eq_true rfl, Nat.le_of_ble_eq_true rfl⟩ (fun r_6 hr_6 => ?_)
    obtain ⟨g_7, g_8, hsr_6_0⟩ := hr_6
    refine lv_if_eq (tgt := 32) hx hb dX6_lacksThreeFrom_15 (by decide) (fun c_9 => ?_) (fun c_9 => ?_)
    · have fc_9 : r_6.toInt = 0 := zf_eq c_9 rfl (by decide)
      refine lv_iconst (v := 0) hx hb dX6_lacksThreeFrom_32 (by decide) ?_
      exact W.zret (v := 0) hx hb hr (by decide) (fun t ht hW => ⟨0, rfl, ⟨by decide, by decide, (show ((0 : Int32).toInt = 1 → zOp fl sz.toInt tt.toInt) ∧ ((0 : Int32).toInt = 0 → ¬ zOp fl sz.toInt tt.toInt) from by (have y0 := hsr_1_0; have y1 := hsr_6_0; rw [show (x_5 : Int32).toInt = tt.toInt + 1 from by omega] at y1; exact ⟨fun h => absurd h (by decide), fun _ => fun z => y1.2 (by omega) z.2.1⟩))⟩, ht⟩) (fun q hq => by cases hq) dX6_lacksThreeFrom_33
    · have fc_9 : r_6.toInt ≠ 0 := zf_ne c_9 rfl (by decide)
      refine lv_aload_n hx hb dX6_lacksThreeFrom_18 rfl (lv_at hl 0 rfl) ?_
      refine lv_iload_n hx hb dX6_lacksThreeFrom_19 rfl (lv_at hl 1 rfl) ?_
      refine lv_iconst (v := 2) hx hb dX6_lacksThreeFrom_20 (by decide) ?_
      refine lv_iadd hx hb dX6_lacksThreeFrom_21 ?_
      refine lv_topi (fun x_10 ex_10 => ?_)
      have qx_10 : x_10.toInt = tt.toInt + 2 := by rw [ex_10]; exact zf_add rfl (by decide) (by omega) (by omega)
      refine zc_V (As := [.int x_10]) (rest := []) ⟨hx, hb, hml, hown, hts⟩ (c_F_Zip_lacksAt l D cI cJ cZ cP cS po z0 zl zs (sz) (at_) (gp) fl ((fun _ => 0)) (x_10) hy0 hy1 hy2 hy3 hy4 hy5 hp_fl) (cwV 1 hts gX6_lacksThreeFrom_X6_lacksAt rfl rfl rfl ⟨rfl, dh_X6_lacksAt⟩ ⟨Nat.le_of_ble_eq_true rfl, Nat.le_of_ble_eq_true rfl⟩) hK hN hZ hP (hP.sub [0, 1] rfl) (va_recv (q := (RX6, TX6, 5)) hK hP (ci := 6) (q0 := 0) rfl rfl) rfl hl.1 rfl (Nat.le_of_ble_eq_true rfl) dX6_lacksThreeFrom_22 ⟨Nat.le_of_ble_eq_true rfl, Nat.le_of_ble_eq_true rfl⟩ (fun r_11 hr_11 => ?_)
      obtain ⟨g_12, g_13, hsr_11_0⟩ := hr_11
      refine lv_if_eq (tgt := 32) hx hb dX6_lacksThreeFrom_25 (by decide) (fun c_14 => ?_) (fun c_14 => ?_)
      · have fc_14 : r_11.toInt = 0 := zf_eq c_14 rfl (by decide)
        refine lv_iconst (v := 0) hx hb dX6_lacksThreeFrom_32 (by decide) ?_
        exact W.zret (v := 0) hx hb hr (by decide) (fun t ht hW => ⟨0, rfl, ⟨by decide, by decide, (show ((0 : Int32).toInt = 1 → zOp fl sz.toInt tt.toInt) ∧ ((0 : Int32).toInt = 0 → ¬ zOp fl sz.toInt tt.toInt) from by (have y0 := hsr_1_0; have y1 := hsr_6_0; rw [show (x_5 : Int32).toInt = tt.toInt + 1 from by omega] at y1; have y2 := hsr_11_0; rw [show (x_10 : Int32).toInt = tt.toInt + 2 from by omega] at y2; exact ⟨fun h => absurd h (by decide), fun _ => fun z => y2.2 (by omega) z.2.2⟩))⟩, ht⟩) (fun q hq => by cases hq) dX6_lacksThreeFrom_33
      · have fc_14 : r_11.toInt ≠ 0 := zf_ne c_14 rfl (by decide)
        refine lv_iconst (v := 1) hx hb dX6_lacksThreeFrom_28 (by decide) ?_
        refine lv_goto (tgt := 33) hx hb dX6_lacksThreeFrom_29 (by decide) ?_
        exact W.zret (v := 1) hx hb hr (by decide) (fun t ht hW => ⟨1, rfl, ⟨by decide, by decide, (show ((1 : Int32).toInt = 1 → zOp fl sz.toInt tt.toInt) ∧ ((1 : Int32).toInt = 0 → ¬ zOp fl sz.toInt tt.toInt) from by (have y0 := hsr_1_0; have y1 := hsr_6_0; rw [show (x_5 : Int32).toInt = tt.toInt + 1 from by omega] at y1; have y2 := hsr_11_0; rw [show (x_10 : Int32).toInt = tt.toInt + 2 from by omega] at y2; exact ⟨fun _ => ⟨y0.1 (by omega), y1.1 (by omega), y2.1 (by omega)⟩, fun h => absurd h (by decide)⟩))⟩, ht⟩) (fun q hq => by cases hq) dX6_lacksThreeFrom_33
set_option maxHeartbeats 4000000 in
set_option maxRecDepth 100000 in
theorem c_F_Zip_isFrail (l : Launch) (D : va_G) (cI cJ cZ cP cS : ClassId) (po : zPool) (z0 zl zs : Nat) (sz at_ gp : Int32) (fl fs : Nat → Int32) (tt : Int32) (hy0 : 4 ≤ sz.toInt) (hy1 : sz.toInt ≤ 40) (hy2 : 0 ≤ at_.toInt) (hy3 : at_.toInt ≤ 40) (hy4 : 1 ≤ gp.toInt) (hy5 : gp.toInt ≤ 9) (hy6 : 0 ≤ tt.toInt) (hy7 : tt.toInt ≤ 39) (hp_fl : zRg fl (0) 1) : Met l yX6_isFrail wsX6_isFrail ({ frames := 2, cells := 0, slots := 0, locals := 42 }) (va_Pc [.ref z0, .int tt] (zR D (zKT cI cJ cZ cP cS) po [(z0, .inr (6, [.ref zl, .ref zs, .int sz, .int at_, .int gp])), (zl, .inl (cZ, 40, .inl fl))])) (vp_Si (fun r => 0 ≤ r.toInt ∧ r.toInt ≤ 1 ∧ ((r.toInt = 1 → zFr fl sz.toInt tt.toInt) ∧ (r.toInt = 0 → ¬ zFr fl sz.toInt tt.toInt)))) 0 0 (fun _ => False) := by
  refine Met.ofW (cc := cX6_isFrail) (maxL := 4) (ret := (some .boolean)) (by decide) rfl ?_
  intro p e s m args below meth c s₁ B hml hv
  obtain ⟨rfl, hP, hK, hN, hZ⟩ := hv
  have hx := B.exec
  have hb := B.bytes
  have hr := B.returns
  have hts := atoms_spec (ws := wsX6_isFrail) B.pre
  have hown : s.vm.findClass RX6 = some m.cls := findClass_of_methodNamed B.named
  have hlocks := B.notSynchronized
  have hl := lv_entry ([.ref z0, .int tt]) (n := 4) (Nat.le_of_ble_eq_true rfl)
  rw [lg_entry_eq]
  generalize (lg_sl ([.ref z0, .int tt]) ++ List.replicate (4 - (lg_sl ([.ref z0, .int tt])).length) Slot.unset).toArray = ls at hl ⊢
  replace hl : lv_has ls 4 [(0, .ref z0), (1, .int tt)] := hl
  refine lv_aload_n hx hb dX6_isFrail_0 rfl (lv_at hl 0 rfl) ?_
  refine lv_iload_n hx hb dX6_isFrail_1 rfl (lv_at hl 1 rfl) ?_
  refine lv_iconst (v := 1) hx hb dX6_isFrail_2 (by decide) ?_
  refine lv_isub hx hb dX6_isFrail_3 ?_
  refine lv_topi (fun x_1 ex_1 => ?_)
  have qx_1 : x_1.toInt = tt.toInt - 1 := by rw [ex_1]; exact zf_sub rfl (by decide) (by omega) (by omega)
  refine zc_V (As := [.int x_1]) (rest := []) ⟨hx, hb, hml, hown, hts⟩ (c_F_Zip_lacksAt l D cI cJ cZ cP cS po z0 zl zs (sz) (at_) (gp) fl ((fun _ => 0)) (x_1) hy0 hy1 hy2 hy3 hy4 hy5 hp_fl) (cwV 1 hts gX6_isFrail_X6_lacksAt rfl rfl rfl ⟨rfl, dh_X6_lacksAt⟩ ⟨Nat.le_of_ble_eq_true rfl, Nat.le_of_ble_eq_true rfl⟩) hK hN hZ hP (hP.sub [0, 1] rfl) (va_recv (q := (RX6, TX6, 5)) hK hP (ci := 6) (q0 := 0) rfl rfl) rfl hl.1 rfl (Nat.le_of_ble_eq_true rfl) dX6_isFrail_4 ⟨Nat.le_of_ble_eq_true rfl, Nat.le_of_ble_eq_true rfl⟩ (fun r_2 hr_2 => ?_)
  obtain ⟨g_3, g_4, hsr_2_0⟩ := hr_2
  refine lv_istore_n (lv' := [(2, .int r_2), (0, .ref z0), (1, .int tt)]) hx hb dX6_isFrail_7 rfl hl (by decide) rfl (fun ls hl => ?_)
  refine lv_aload_n hx hb dX6_isFrail_8 rfl (lv_at hl 1 rfl) ?_
  refine lv_iload_n hx hb dX6_isFrail_9 rfl (lv_at hl 2 rfl) ?_
  refine lv_iconst (v := 1) hx hb dX6_isFrail_10 (by decide) ?_
  refine lv_iadd hx hb dX6_isFrail_11 ?_
  refine lv_topi (fun x_5 ex_5 => ?_)
  have qx_5 : x_5.toInt = tt.toInt + 1 := by rw [ex_5]; exact zf_add rfl (by decide) (by omega) (by omega)
  refine zc_V (As := [.int x_5]) (rest := []) ⟨hx, hb, hml, hown, hts⟩ (c_F_Zip_lacksAt l D cI cJ cZ cP cS po z0 zl zs (sz) (at_) (gp) fl ((fun _ => 0)) (x_5) hy0 hy1 hy2 hy3 hy4 hy5 hp_fl) (cwV 1 hts gX6_isFrail_X6_lacksAt rfl rfl rfl ⟨rfl, dh_X6_lacksAt⟩ ⟨Nat.le_of_ble_eq_true rfl, Nat.le_of_ble_eq_true rfl⟩) hK hN hZ hP (hP.sub [0, 1] rfl) (va_recv (q := (RX6, TX6, 5)) hK hP (ci := 6) (q0 := 0) rfl rfl) rfl hl.1 rfl (Nat.le_of_ble_eq_true rfl) dX6_isFrail_12 ⟨Nat.le_of_ble_eq_true rfl, Nat.le_of_ble_eq_true rfl⟩ (fun r_6 hr_6 => ?_)
  obtain ⟨g_7, g_8, hsr_6_0⟩ := hr_6
  refine lv_istore_n (lv' := [(3, .int r_6), (2, .int r_2), (0, .ref z0), (1, .int tt)]) hx hb dX6_isFrail_15 rfl hl (by decide) rfl (fun ls hl => ?_)
  refine lv_iload_n hx hb dX6_isFrail_16 rfl (lv_at hl 1 rfl) ?_
  refine lv_if_eq (tgt := 30) hx hb dX6_isFrail_17 (by decide) (fun c_9 => ?_) (fun c_9 => ?_)
  · have fc_9 : r_2.toInt = 0 := zf_eq c_9 rfl (by decide)
    refine lv_iload_n hx hb dX6_isFrail_30 rfl (lv_at hl 1 rfl) ?_
    refine lv_if_eq (tgt := 38) hx hb dX6_isFrail_31 (by decide) (fun c_10 => ?_) (fun c_10 => ?_)
    · have fc_10 : r_2.toInt = 0 := zf_eq c_10 rfl (by decide)
      refine lv_iload_n hx hb dX6_isFrail_38 rfl (lv_at hl 0 rfl) ?_
      refine lv_if_eq (tgt := 56) hx hb dX6_isFrail_39 (by decide) (fun c_11 => ?_) (fun c_11 => ?_)
      · have fc_11 : r_6.toInt = 0 := zf_eq c_11 rfl (by decide)
        refine lv_iconst (v := 0) hx hb dX6_isFrail_56 (by decide) ?_
        exact W.zret (v := 0) hx hb hr (by decide) (fun t ht hW => ⟨0, rfl, ⟨by decide, by decide, (show ((0 : Int32).toInt = 1 → zFr fl sz.toInt tt.toInt) ∧ ((0 : Int32).toInt = 0 → ¬ zFr fl sz.toInt tt.toInt) from by (have a1 := hsr_2_0; rw [show (x_1 : Int32).toInt = tt.toInt - 1 from by omega] at a1; have b1 := hsr_6_0; rw [show (x_5 : Int32).toInt = tt.toInt + 1 from by omega] at b1; exact ⟨fun h => absurd h (by decide), fun _ => by (rintro (⟨qa, qb⟩ | ⟨qa, qb⟩ | ⟨qa, qb⟩) <;> first | exact a1.2 (by omega) qa | exact a1.2 (by omega) qb | exact b1.2 (by omega) qa | exact b1.2 (by omega) qb)⟩))⟩, ht⟩) (fun q hq => by cases hq) dX6_isFrail_57
      · have fc_11 : r_6.toInt ≠ 0 := zf_ne c_11 rfl (by decide)
        refine lv_aload_n hx hb dX6_isFrail_42 rfl (lv_at hl 2 rfl) ?_
        refine lv_iload_n hx hb dX6_isFrail_43 rfl (lv_at hl 3 rfl) ?_
        refine lv_iconst (v := 2) hx hb dX6_isFrail_44 (by decide) ?_
        refine lv_iadd hx hb dX6_isFrail_45 ?_
        refine lv_topi (fun x_12 ex_12 => ?_)
        have qx_12 : x_12.toInt = tt.toInt + 2 := by rw [ex_12]; exact zf_add rfl (by decide) (by omega) (by omega)
        refine zc_V (As := [.int x_12]) (rest := []) ⟨hx, hb, hml, hown, hts⟩ (c_F_Zip_lacksAt l D cI cJ cZ cP cS po z0 zl zs (sz) (at_) (gp) fl ((fun _ => 0)) (x_12) hy0 hy1 hy2 hy3 hy4 hy5 hp_fl) (cwV 1 hts gX6_isFrail_X6_lacksAt rfl rfl rfl ⟨rfl, dh_X6_lacksAt⟩ ⟨Nat.le_of_ble_eq_true rfl, Nat.le_of_ble_eq_true rfl⟩) hK hN hZ hP (hP.sub [0, 1] rfl) (va_recv (q := (RX6, TX6, 5)) hK hP (ci := 6) (q0 := 0) rfl rfl) rfl hl.1 rfl (Nat.le_of_ble_eq_true rfl) dX6_isFrail_46 ⟨Nat.le_of_ble_eq_true rfl, Nat.le_of_ble_eq_true rfl⟩ (fun r_13 hr_13 => ?_)
        obtain ⟨g_14, g_15, hsr_13_0⟩ := hr_13
        refine lv_if_eq (tgt := 56) hx hb dX6_isFrail_49 (by decide) (fun c_16 => ?_) (fun c_16 => ?_)
        · have fc_16 : r_13.toInt = 0 := zf_eq c_16 rfl (by decide)
          refine lv_iconst (v := 0) hx hb dX6_isFrail_56 (by decide) ?_
          exact W.zret (v := 0) hx hb hr (by decide) (fun t ht hW => ⟨0, rfl, ⟨by decide, by decide, (show ((0 : Int32).toInt = 1 → zFr fl sz.toInt tt.toInt) ∧ ((0 : Int32).toInt = 0 → ¬ zFr fl sz.toInt tt.toInt) from by (have a1 := hsr_2_0; rw [show (x_1 : Int32).toInt = tt.toInt - 1 from by omega] at a1; have b1 := hsr_6_0; rw [show (x_5 : Int32).toInt = tt.toInt + 1 from by omega] at b1; have b2 := hsr_13_0; rw [show (x_12 : Int32).toInt = tt.toInt + 2 from by omega] at b2; exact ⟨fun h => absurd h (by decide), fun _ => by (rintro (⟨qa, qb⟩ | ⟨qa, qb⟩ | ⟨qa, qb⟩) <;> first | exact a1.2 (by omega) qa | exact a1.2 (by omega) qb | exact b1.2 (by omega) qa | exact b1.2 (by omega) qb | exact b2.2 (by omega) qa | exact b2.2 (by omega) qb)⟩))⟩, ht⟩) (fun q hq => by cases hq) dX6_isFrail_57
        · have fc_16 : r_13.toInt ≠ 0 := zf_ne c_16 rfl (by decide)
          refine lv_iconst (v := 1) hx hb dX6_isFrail_52 (by decide) ?_
          refine lv_goto (tgt := 57) hx hb dX6_isFrail_53 (by decide) ?_
          exact W.zret (v := 1) hx hb hr (by decide) (fun t ht hW => ⟨1, rfl, ⟨by decide, by decide, (show ((1 : Int32).toInt = 1 → zFr fl sz.toInt tt.toInt) ∧ ((1 : Int32).toInt = 0 → ¬ zFr fl sz.toInt tt.toInt) from by (have a1 := hsr_2_0; rw [show (x_1 : Int32).toInt = tt.toInt - 1 from by omega] at a1; have b1 := hsr_6_0; rw [show (x_5 : Int32).toInt = tt.toInt + 1 from by omega] at b1; have b2 := hsr_13_0; rw [show (x_12 : Int32).toInt = tt.toInt + 2 from by omega] at b2; exact ⟨fun _ => by (first | exact Or.inr (Or.inl ⟨a1.1 (by omega), b1.1 (by omega)⟩) | exact Or.inr (Or.inr ⟨b1.1 (by omega), b2.1 (by omega)⟩)), fun h => absurd h (by decide)⟩))⟩, ht⟩) (fun q hq => by cases hq) dX6_isFrail_57
    · exfalso; have fc_10 : r_2.toInt ≠ 0 := zf_ne c_10 rfl (by decide); omega
  · have fc_9 : r_2.toInt ≠ 0 := zf_ne c_9 rfl (by decide)
    refine lv_aload_n hx hb dX6_isFrail_20 rfl (lv_at hl 2 rfl) ?_
    refine lv_iload_n hx hb dX6_isFrail_21 rfl (lv_at hl 3 rfl) ?_
    refine lv_iconst (v := 2) hx hb dX6_isFrail_22 (by decide) ?_
    refine lv_isub hx hb dX6_isFrail_23 ?_
    refine lv_topi (fun x_17 ex_17 => ?_)
    have qx_17 : x_17.toInt = tt.toInt - 2 := by rw [ex_17]; exact zf_sub rfl (by decide) (by omega) (by omega)
    refine zc_V (As := [.int x_17]) (rest := []) ⟨hx, hb, hml, hown, hts⟩ (c_F_Zip_lacksAt l D cI cJ cZ cP cS po z0 zl zs (sz) (at_) (gp) fl ((fun _ => 0)) (x_17) hy0 hy1 hy2 hy3 hy4 hy5 hp_fl) (cwV 1 hts gX6_isFrail_X6_lacksAt rfl rfl rfl ⟨rfl, dh_X6_lacksAt⟩ ⟨Nat.le_of_ble_eq_true rfl, Nat.le_of_ble_eq_true rfl⟩) hK hN hZ hP (hP.sub [0, 1] rfl) (va_recv (q := (RX6, TX6, 5)) hK hP (ci := 6) (q0 := 0) rfl rfl) rfl hl.1 rfl (Nat.le_of_ble_eq_true rfl) dX6_isFrail_24 ⟨Nat.le_of_ble_eq_true rfl, Nat.le_of_ble_eq_true rfl⟩ (fun r_18 hr_18 => ?_)
    obtain ⟨g_19, g_20, hsr_18_0⟩ := hr_18
    refine lv_if_ne (tgt := 52) hx hb dX6_isFrail_27 (by decide) (fun c_21 => ?_) (fun c_21 => ?_)
    · have fc_21 : r_18.toInt ≠ 0 := zf_ne c_21 rfl (by decide)
      refine lv_iconst (v := 1) hx hb dX6_isFrail_52 (by decide) ?_
      refine lv_goto (tgt := 57) hx hb dX6_isFrail_53 (by decide) ?_
      exact W.zret (v := 1) hx hb hr (by decide) (fun t ht hW => ⟨1, rfl, ⟨by decide, by decide, (show ((1 : Int32).toInt = 1 → zFr fl sz.toInt tt.toInt) ∧ ((1 : Int32).toInt = 0 → ¬ zFr fl sz.toInt tt.toInt) from by (have a1 := hsr_2_0; rw [show (x_1 : Int32).toInt = tt.toInt - 1 from by omega] at a1; have b1 := hsr_6_0; rw [show (x_5 : Int32).toInt = tt.toInt + 1 from by omega] at b1; have a2 := hsr_18_0; rw [show (x_17 : Int32).toInt = tt.toInt - 2 from by omega] at a2; exact ⟨fun _ => by (first | exact Or.inl ⟨a1.1 (by omega), a2.1 (by omega)⟩ | exact Or.inr (Or.inl ⟨a1.1 (by omega), b1.1 (by omega)⟩)), fun h => absurd h (by decide)⟩))⟩, ht⟩) (fun q hq => by cases hq) dX6_isFrail_57
    · have fc_21 : r_18.toInt = 0 := zf_eq c_21 rfl (by decide)
      refine lv_iload_n hx hb dX6_isFrail_30 rfl (lv_at hl 1 rfl) ?_
      refine lv_if_eq (tgt := 38) hx hb dX6_isFrail_31 (by decide) (fun c_22 => ?_) (fun c_22 => ?_)
      · exfalso; have fc_22 : r_2.toInt = 0 := zf_eq c_22 rfl (by decide); omega
      · have fc_22 : r_2.toInt ≠ 0 := zf_ne c_22 rfl (by decide)
        refine lv_iload_n hx hb dX6_isFrail_34 rfl (lv_at hl 0 rfl) ?_
        refine lv_if_ne (tgt := 52) hx hb dX6_isFrail_35 (by decide) (fun c_23 => ?_) (fun c_23 => ?_)
        · have fc_23 : r_6.toInt ≠ 0 := zf_ne c_23 rfl (by decide)
          refine lv_iconst (v := 1) hx hb dX6_isFrail_52 (by decide) ?_
          refine lv_goto (tgt := 57) hx hb dX6_isFrail_53 (by decide) ?_
          exact W.zret (v := 1) hx hb hr (by decide) (fun t ht hW => ⟨1, rfl, ⟨by decide, by decide, (show ((1 : Int32).toInt = 1 → zFr fl sz.toInt tt.toInt) ∧ ((1 : Int32).toInt = 0 → ¬ zFr fl sz.toInt tt.toInt) from by (have a1 := hsr_2_0; rw [show (x_1 : Int32).toInt = tt.toInt - 1 from by omega] at a1; have b1 := hsr_6_0; rw [show (x_5 : Int32).toInt = tt.toInt + 1 from by omega] at b1; have a2 := hsr_18_0; rw [show (x_17 : Int32).toInt = tt.toInt - 2 from by omega] at a2; exact ⟨fun _ => by (first | exact Or.inl ⟨a1.1 (by omega), a2.1 (by omega)⟩ | exact Or.inr (Or.inl ⟨a1.1 (by omega), b1.1 (by omega)⟩)), fun h => absurd h (by decide)⟩))⟩, ht⟩) (fun q hq => by cases hq) dX6_isFrail_57
        · have fc_23 : r_6.toInt = 0 := zf_eq c_23 rfl (by decide)
          refine lv_iload_n hx hb dX6_isFrail_38 rfl (lv_at hl 0 rfl) ?_
          refine lv_if_eq (tgt := 56) hx hb dX6_isFrail_39 (by decide) (fun c_24 => ?_) (fun c_24 => ?_)
          · have fc_24 : r_6.toInt = 0 := zf_eq c_24 rfl (by decide)
            refine lv_iconst (v := 0) hx hb dX6_isFrail_56 (by decide) ?_
            exact W.zret (v := 0) hx hb hr (by decide) (fun t ht hW => ⟨0, rfl, ⟨by decide, by decide, (show ((0 : Int32).toInt = 1 → zFr fl sz.toInt tt.toInt) ∧ ((0 : Int32).toInt = 0 → ¬ zFr fl sz.toInt tt.toInt) from by (have a1 := hsr_2_0; rw [show (x_1 : Int32).toInt = tt.toInt - 1 from by omega] at a1; have b1 := hsr_6_0; rw [show (x_5 : Int32).toInt = tt.toInt + 1 from by omega] at b1; have a2 := hsr_18_0; rw [show (x_17 : Int32).toInt = tt.toInt - 2 from by omega] at a2; exact ⟨fun h => absurd h (by decide), fun _ => by (rintro (⟨qa, qb⟩ | ⟨qa, qb⟩ | ⟨qa, qb⟩) <;> first | exact a1.2 (by omega) qa | exact a1.2 (by omega) qb | exact b1.2 (by omega) qa | exact b1.2 (by omega) qb | exact a2.2 (by omega) qa | exact a2.2 (by omega) qb)⟩))⟩, ht⟩) (fun q hq => by cases hq) dX6_isFrail_57
          · exfalso; have fc_24 : r_6.toInt ≠ 0 := zf_ne c_24 rfl (by decide); omega
set_option maxHeartbeats 4000000 in
set_option maxRecDepth 100000 in
theorem c_F_Zip_isStrong (l : Launch) (D : va_G) (cI cJ cZ cP cS : ClassId) (po : zPool) (z0 zl zs : Nat) (sz at_ gp : Int32) (fl fs : Nat → Int32)  (hy0 : 4 ≤ sz.toInt) (hy1 : sz.toInt ≤ 40) (hy2 : 0 ≤ at_.toInt) (hy3 : at_.toInt ≤ 40) (hy4 : 1 ≤ gp.toInt) (hy5 : gp.toInt ≤ 9) (hp_fl : zRg fl (0) 1) : Met l yX6_isStrong wsX6_isStrong ({ frames := 3, cells := 0, slots := 0, locals := 63 }) (va_Pc [.ref z0] (zR D (zKT cI cJ cZ cP cS) po [(z0, .inr (6, [.ref zl, .ref zs, .int sz, .int at_, .int gp])), (zl, .inl (cZ, 40, .inl fl))])) (vp_Si (fun r => 0 ≤ r.toInt ∧ r.toInt ≤ 1 ∧ ((r.toInt = 1 → zHd fl sz.toInt) ∧ (r.toInt = 0 → ¬ zHd fl sz.toInt)))) 0 0 (fun _ => False) := by
  refine Met.ofW (cc := cX6_isStrong) (maxL := 2) (ret := (some .boolean)) (by decide) rfl ?_
  intro p e s m args below meth c s₁ B hml hv
  obtain ⟨rfl, hP, hK, hN, hZ⟩ := hv
  have hx := B.exec
  have hb := B.bytes
  have hr := B.returns
  have hts := atoms_spec (ws := wsX6_isStrong) B.pre
  have hown : s.vm.findClass RX6 = some m.cls := findClass_of_methodNamed B.named
  have hlocks := B.notSynchronized
  have hl := lv_entry ([.ref z0]) (n := 2) (Nat.le_of_ble_eq_true rfl)
  rw [lg_entry_eq]
  generalize (lg_sl ([.ref z0]) ++ List.replicate (2 - (lg_sl ([.ref z0])).length) Slot.unset).toArray = ls at hl ⊢
  replace hl : lv_has ls 2 [(0, .ref z0)] := hl
  refine lv_iconst (v := 0) hx hb dX6_isStrong_0 (by decide) ?_
  refine lv_istore_n (lv' := [(1, .int 0), (0, .ref z0)]) hx hb dX6_isStrong_1 rfl hl (by decide) rfl (fun ls hl => ?_)
  obtain ⟨i_2, hi_2⟩ : ∃ i : Int32, i = 0 := ⟨_, rfl⟩
  replace hl : lv_has ls 2 [(1, .int i_2), (0, .ref z0)] := by rw [hi_2]; exact lv_sub hl [0, 1] rfl
  have h1i_2 : i_2.toInt = 0 := by rw [hi_2]; decide
  obtain ⟨nfu, hni_2⟩ : ∃ nq9 : Nat, sz.toInt ≤ i_2.toInt + (nq9 : Int) := ⟨((sz.toInt : Int) - 0).toNat, by omega⟩
  have hloi_2 : 0 ≤ i_2.toInt := by omega
  have hvi_2_0 : (∀ u : Int, 0 ≤ u → u < i_2.toInt → ¬ zOp fl sz.toInt u) := by
    (try rw [hi_2]); (intro u h1 h2; exfalso; have k0 : (0 : Int32).toInt = 0 := (by decide); omega)
  clear h1i_2 hi_2
  revert hni_2
  revert hloi_2
  revert hvi_2_0
  revert hl
  revert ls
  revert i_2
  induction nfu with
  | zero =>
    intro i_2 ls hl hvi_2_0 hloi_2 hni_2
    have hzi_2 : sz.toInt ≤ i_2.toInt := by omega
    refine lv_iload_n hx hb dX6_isStrong_2 rfl (lv_at hl 0 rfl) ?_
    refine lv_aload_n hx hb dX6_isStrong_3 rfl (lv_at hl 1 rfl) ?_
    refine va_get (D := D) (ci := 6) (v := .int sz) (C := RX6) (T := TX6) (N := 5) hx hb hts hi_X6_isStrong_6 hown hK hP 0 rfl rfl 2 (by decide) (hts (.fieldLink RX6 19 "TheLiningsInIt$Zip" "size" "I") (List.mem_of_getElem? (i := 1) rfl)) (fun _ h9 => h9) rfl dX6_isStrong_4 ?_
    refine lv_icmp_ge (tgt := 26) hx hb dX6_isStrong_7 (by decide) (fun c_1 => ?_) (fun c_1 => ?_)
    · have fc_1 : sz.toInt ≤ i_2.toInt := zf_le c_1 rfl rfl
      refine lv_iconst (v := 1) hx hb dX6_isStrong_26 (by decide) ?_
      exact W.zret (v := 1) hx hb hr (by decide) (fun t ht hW => ⟨1, rfl, ⟨by decide, by decide, (show ((1 : Int32).toInt = 1 → zHd fl sz.toInt) ∧ ((1 : Int32).toInt = 0 → ¬ zHd fl sz.toInt) from by (exact ⟨fun _ => fun u a b => hvi_2_0 u a (by omega), fun h => absurd h (by decide)⟩))⟩, ht⟩) (fun q hq => by cases hq) dX6_isStrong_27
    · exfalso; have fc_1 : i_2.toInt < sz.toInt := zf_nle c_1 rfl rfl; omega
  | succ nfu ih =>
    intro i_2 ls hl hvi_2_0 hloi_2 hni_2
    refine lv_iload_n hx hb dX6_isStrong_2 rfl (lv_at hl 0 rfl) ?_
    refine lv_aload_n hx hb dX6_isStrong_3 rfl (lv_at hl 1 rfl) ?_
    refine va_get (D := D) (ci := 6) (v := .int sz) (C := RX6) (T := TX6) (N := 5) hx hb hts hi_X6_isStrong_6 hown hK hP 0 rfl rfl 2 (by decide) (hts (.fieldLink RX6 19 "TheLiningsInIt$Zip" "size" "I") (List.mem_of_getElem? (i := 1) rfl)) (fun _ h9 => h9) rfl dX6_isStrong_4 ?_
    refine lv_icmp_ge (tgt := 26) hx hb dX6_isStrong_7 (by decide) (fun c_2 => ?_) (fun c_2 => ?_)
    · have fc_2 : sz.toInt ≤ i_2.toInt := zf_le c_2 rfl rfl
      refine lv_iconst (v := 1) hx hb dX6_isStrong_26 (by decide) ?_
      exact W.zret (v := 1) hx hb hr (by decide) (fun t ht hW => ⟨1, rfl, ⟨by decide, by decide, (show ((1 : Int32).toInt = 1 → zHd fl sz.toInt) ∧ ((1 : Int32).toInt = 0 → ¬ zHd fl sz.toInt) from by (exact ⟨fun _ => fun u a b => hvi_2_0 u a (by omega), fun h => absurd h (by decide)⟩))⟩, ht⟩) (fun q hq => by cases hq) dX6_isStrong_27
    · have fc_2 : i_2.toInt < sz.toInt := zf_nle c_2 rfl rfl
      refine lv_aload_n hx hb dX6_isStrong_10 rfl (lv_at hl 1 rfl) ?_
      refine lv_iload_n hx hb dX6_isStrong_11 rfl (lv_at hl 0 rfl) ?_
      refine zc_V (As := [.int i_2]) (rest := []) ⟨hx, hb, hml, hown, hts⟩ (c_F_Zip_lacks3 l D cI cJ cZ cP cS po z0 zl zs (sz) (at_) (gp) fl ((fun _ => 0)) (i_2) hy0 hy1 hy2 hy3 hy4 hy5 (by omega) (by omega) hp_fl) (cwV 1 hts gX6_isStrong_X6_lacksThreeFrom rfl rfl rfl ⟨rfl, dh_X6_lacksThreeFrom⟩ ⟨Nat.le_of_ble_eq_true rfl, Nat.le_of_ble_eq_true rfl⟩) hK hN hZ hP (hP.sub [0, 1] rfl) (va_recv (q := (RX6, TX6, 5)) hK hP (ci := 6) (q0 := 0) rfl rfl) rfl hl.1 rfl (Nat.le_of_ble_eq_true rfl) dX6_isStrong_12 ⟨Nat.le_of_ble_eq_true rfl, Nat.le_of_ble_eq_true rfl⟩ (fun r_3 hr_3 => ?_)
      obtain ⟨g_4, g_5, hsr_3_0⟩ := hr_3
      refine lv_if_eq (tgt := 20) hx hb dX6_isStrong_15 (by decide) (fun c_6 => ?_) (fun c_6 => ?_)
      · have fc_6 : r_3.toInt = 0 := zf_eq c_6 rfl (by decide)
        obtain ⟨x_7, ex_7⟩ : ∃ y : Int32, y = i_2 + 1 := ⟨_, rfl⟩
        have qx_7 : x_7.toInt = i_2.toInt + 1 := dw_inc ex_7 fc_2
        refine lv_iinc (v := x_7) (lv' := [(1, .int x_7), (0, .ref z0)]) hx hb dX6_isStrong_20 hl (k := 0) rfl ex_7.symm (by decide) rfl (fun ls hl => ?_)
        refine lv_goto (tgt := 2) hx hb dX6_isStrong_23 (by decide) ?_
        exact ih x_7 _ (lv_sub hl [0, 1] rfl) (show (∀ u : Int, 0 ≤ u → u < x_7.toInt → ¬ zOp fl sz.toInt u) from by exact zAll_S (P := fun u => ¬ zOp fl sz.toInt u) hvi_2_0 (hsr_3_0.2 (by omega)) (by omega)) (dw_lo hloi_2 qx_7) (dw_hn hni_2 qx_7)
      · have fc_6 : r_3.toInt ≠ 0 := zf_ne c_6 rfl (by decide)
        refine lv_iconst (v := 0) hx hb dX6_isStrong_18 (by decide) ?_
        exact W.zret (v := 0) hx hb hr (by decide) (fun t ht hW => ⟨0, rfl, ⟨by decide, by decide, (show ((0 : Int32).toInt = 1 → zHd fl sz.toInt) ∧ ((0 : Int32).toInt = 0 → ¬ zHd fl sz.toInt) from by (exact ⟨fun h => absurd h (by decide), fun _ => fun hd => hd i_2.toInt (by omega) (by omega) (hsr_3_0.1 (by omega))⟩))⟩, ht⟩) (fun q hq => by cases hq) dX6_isStrong_19
set_option maxHeartbeats 4000000 in
set_option maxRecDepth 100000 in
theorem c_F_Zip_frailTeeth (l : Launch) (D : va_G) (cI cJ cZ cP cS : ClassId) (po : zPool) (z0 zl zs : Nat) (sz at_ gp : Int32) (fl fs : Nat → Int32)  (hy0 : 4 ≤ sz.toInt) (hy1 : sz.toInt ≤ 40) (hy2 : 0 ≤ at_.toInt) (hy3 : at_.toInt ≤ 40) (hy4 : 1 ≤ gp.toInt) (hy5 : gp.toInt ≤ 9) (hp_fl : zRg fl (0) 1) : Met l yX6_frailTeeth wsX6_frailTeeth ({ frames := 4, cells := 0, slots := 0, locals := 84 }) (va_Pc [.ref z0] (zR D (zKT cI cJ cZ cP cS) po [(z0, .inr (6, [.ref zl, .ref zs, .int sz, .int at_, .int gp])), (zl, .inl (cZ, 40, .inl fl))])) (vp_Si (fun r => ((zHd fl sz.toInt → r.toInt = zCf fl sz.toInt sz.toInt.toNat) ∧ (¬ zHd fl sz.toInt → r.toInt = 0)))) 0 0 (fun _ => False) := by
  refine Met.ofW (cc := cX6_frailTeeth) (maxL := 3) (ret := (some .int)) (by decide) rfl ?_
  intro p e s m args below meth c s₁ B hml hv
  obtain ⟨rfl, hP, hK, hN, hZ⟩ := hv
  have hx := B.exec
  have hb := B.bytes
  have hr := B.returns
  have hts := atoms_spec (ws := wsX6_frailTeeth) B.pre
  have hown : s.vm.findClass RX6 = some m.cls := findClass_of_methodNamed B.named
  have hlocks := B.notSynchronized
  have hl := lv_entry ([.ref z0]) (n := 3) (Nat.le_of_ble_eq_true rfl)
  rw [lg_entry_eq]
  generalize (lg_sl ([.ref z0]) ++ List.replicate (3 - (lg_sl ([.ref z0])).length) Slot.unset).toArray = ls at hl ⊢
  replace hl : lv_has ls 3 [(0, .ref z0)] := hl
  refine lv_aload_n hx hb dX6_frailTeeth_0 rfl (lv_at hl 0 rfl) ?_
  refine zc_V (As := []) (rest := []) ⟨hx, hb, hml, hown, hts⟩ (c_F_Zip_isStrong l D cI cJ cZ cP cS po z0 zl zs (sz) (at_) (gp) fl ((fun _ => 0)) hy0 hy1 hy2 hy3 hy4 hy5 hp_fl) (cwV 0 hts gX6_frailTeeth_X6_isStrong rfl rfl rfl ⟨rfl, dh_X6_isStrong⟩ ⟨Nat.le_of_ble_eq_true rfl, Nat.le_of_ble_eq_true rfl⟩) hK hN hZ hP (hP.sub [0, 1] rfl) (va_recv (q := (RX6, TX6, 5)) hK hP (ci := 6) (q0 := 0) rfl rfl) rfl hl.1 rfl (Nat.le_of_ble_eq_true rfl) dX6_frailTeeth_1 ⟨Nat.le_of_ble_eq_true rfl, Nat.le_of_ble_eq_true rfl⟩ (fun r_1 hr_1 => ?_)
  obtain ⟨g_2, g_3, hsr_1_0⟩ := hr_1
  refine lv_if_ne (tgt := 9) hx hb dX6_frailTeeth_4 (by decide) (fun c_4 => ?_) (fun c_4 => ?_)
  · have fc_4 : r_1.toInt ≠ 0 := zf_ne c_4 rfl (by decide)
    refine lv_iconst (v := 0) hx hb dX6_frailTeeth_9 (by decide) ?_
    refine lv_istore_n (lv' := [(1, .int 0), (0, .ref z0)]) hx hb dX6_frailTeeth_10 rfl hl (by decide) rfl (fun ls hl => ?_)
    refine lv_iconst (v := 0) hx hb dX6_frailTeeth_11 (by decide) ?_
    refine lv_istore_n (lv' := [(2, .int 0), (1, .int 0), (0, .ref z0)]) hx hb dX6_frailTeeth_12 rfl hl (by decide) rfl (fun ls hl => ?_)
    obtain ⟨i_13, hi_13⟩ : ∃ i : Int32, i = 0 := ⟨_, rfl⟩
    replace hl : lv_has ls 3 [(2, .int i_13), (1, .int 0), (0, .ref z0)] := by rw [hi_13]; exact lv_sub hl [0, 1, 2] rfl
    have h1i_13 : i_13.toInt = 0 := by rw [hi_13]; decide
    obtain ⟨nfu, hni_13⟩ : ∃ nq9 : Nat, sz.toInt ≤ i_13.toInt + (nq9 : Int) := ⟨((sz.toInt : Int) - 0).toNat, by omega⟩
    have hloi_13 : 0 ≤ i_13.toInt := by omega
    obtain ⟨v_5, hv_5⟩ : ∃ g : Int32, g = 0 := ⟨_, rfl⟩
    replace hl : lv_has ls 3 [(2, .int i_13), (1, .int v_5), (0, .ref z0)] := by rw [hv_5]; exact hl
    have hbv_5 : 0 ≤ v_5.toInt ∧ v_5.toInt ≤ 40 := by rw [hv_5]; exact ⟨by decide, by decide⟩
    have hvi_13_0 : (v_5 : Int32).toInt = zCf fl sz.toInt i_13.toInt.toNat := by
      (try rw [hi_13]); (try rw [hv_5]); (rw [(show ((0 : Int32).toInt.toNat) = 0 from by decide)]; show (0 : Int32).toInt = 0; decide)
    have hvi_13_1 : (v_5 : Int32).toInt ≤ i_13.toInt := by
      (try rw [hi_13]); (try rw [hv_5]); first | omega | decide
    have hvi_13_2 : i_13.toInt ≤ sz.toInt := by
      (try rw [hi_13]); (try rw [hv_5]); (have k0 : (0 : Int32).toInt = 0 := (by decide); omega)
    clear h1i_13 hi_13 hv_5
    revert hni_13
    revert hloi_13
    revert hvi_13_2
    revert hvi_13_1
    revert hvi_13_0
    revert hbv_5
    revert hl
    revert ls
    revert v_5
    revert i_13
    induction nfu with
    | zero =>
      intro i_13 v_5 ls hl hbv_5 hvi_13_0 hvi_13_1 hvi_13_2 hloi_13 hni_13
      have hzi_13 : sz.toInt ≤ i_13.toInt := by omega
      refine lv_iload_n hx hb dX6_frailTeeth_13 rfl (lv_at hl 0 rfl) ?_
      refine lv_aload_n hx hb dX6_frailTeeth_14 rfl (lv_at hl 2 rfl) ?_
      refine va_get (D := D) (ci := 6) (v := .int sz) (C := RX6) (T := TX6) (N := 5) hx hb hts hi_X6_frailTeeth_6 hown hK hP 0 rfl rfl 2 (by decide) (hts (.fieldLink RX6 19 "TheLiningsInIt$Zip" "size" "I") (List.mem_of_getElem? (i := 1) rfl)) (fun _ h9 => h9) rfl dX6_frailTeeth_15 ?_
      refine lv_icmp_ge (tgt := 47) hx hb dX6_frailTeeth_18 (by decide) (fun c_6 => ?_) (fun c_6 => ?_)
      · have fc_6 : sz.toInt ≤ i_13.toInt := zf_le c_6 rfl rfl
        refine lv_iload_n hx hb dX6_frailTeeth_47 rfl (lv_at hl 1 rfl) ?_
        exact W.iret (v := v_5) hx hb hr (fun t ht hW => ⟨v_5, rfl, (show (zHd fl sz.toInt → (v_5 : Int32).toInt = zCf fl sz.toInt sz.toInt.toNat) ∧ (¬ zHd fl sz.toInt → (v_5 : Int32).toInt = 0) from by (have h9 : i_13.toInt.toNat = sz.toInt.toNat := (by omega); have z := hvi_13_0; rw [h9] at z; exact ⟨fun _ => z, fun h => absurd (hsr_1_0.1 (by omega)) h⟩)), ht⟩) (fun q hq => by cases hq) dX6_frailTeeth_48
      · exfalso; have fc_6 : i_13.toInt < sz.toInt := zf_nle c_6 rfl rfl; omega
    | succ nfu ih =>
      intro i_13 v_5 ls hl hbv_5 hvi_13_0 hvi_13_1 hvi_13_2 hloi_13 hni_13
      refine lv_iload_n hx hb dX6_frailTeeth_13 rfl (lv_at hl 0 rfl) ?_
      refine lv_aload_n hx hb dX6_frailTeeth_14 rfl (lv_at hl 2 rfl) ?_
      refine va_get (D := D) (ci := 6) (v := .int sz) (C := RX6) (T := TX6) (N := 5) hx hb hts hi_X6_frailTeeth_6 hown hK hP 0 rfl rfl 2 (by decide) (hts (.fieldLink RX6 19 "TheLiningsInIt$Zip" "size" "I") (List.mem_of_getElem? (i := 1) rfl)) (fun _ h9 => h9) rfl dX6_frailTeeth_15 ?_
      refine lv_icmp_ge (tgt := 47) hx hb dX6_frailTeeth_18 (by decide) (fun c_7 => ?_) (fun c_7 => ?_)
      · have fc_7 : sz.toInt ≤ i_13.toInt := zf_le c_7 rfl rfl
        refine lv_iload_n hx hb dX6_frailTeeth_47 rfl (lv_at hl 1 rfl) ?_
        exact W.iret (v := v_5) hx hb hr (fun t ht hW => ⟨v_5, rfl, (show (zHd fl sz.toInt → (v_5 : Int32).toInt = zCf fl sz.toInt sz.toInt.toNat) ∧ (¬ zHd fl sz.toInt → (v_5 : Int32).toInt = 0) from by (have h9 : i_13.toInt.toNat = sz.toInt.toNat := (by omega); have z := hvi_13_0; rw [h9] at z; exact ⟨fun _ => z, fun h => absurd (hsr_1_0.1 (by omega)) h⟩)), ht⟩) (fun q hq => by cases hq) dX6_frailTeeth_48
      · have fc_7 : i_13.toInt < sz.toInt := zf_nle c_7 rfl rfl
        refine lv_aload_n hx hb dX6_frailTeeth_21 rfl (lv_at hl 2 rfl) ?_
        refine va_get (D := D) (ci := 6) (v := .ref zl) (C := RX6) (T := TX6) (N := 5) hx hb hts hi_X6_frailTeeth_6 hown hK hP 0 rfl rfl 0 (by decide) (hts (.fieldLink RX6 9 "TheLiningsInIt$Zip" "lacking" "[Z") (List.mem_of_getElem? (i := 2) rfl)) (fun _ h9 => h9) rfl dX6_frailTeeth_22 ?_
        refine lv_iload_n hx hb dX6_frailTeeth_25 rfl (lv_at hl 0 rfl) ?_
        refine va_zald hx hb hK hP 1 2 rfl rfl (zf_in (by omega) (by omega)) dX6_frailTeeth_26 ?_
        refine lv_topi (fun x_8 ex_8 => ?_)
        have bx_8 : 0 ≤ x_8.toInt ∧ x_8.toInt ≤ 1 := by rw [ex_8]; exact hp_fl _
        refine lv_if_ne (tgt := 41) hx hb dX6_frailTeeth_27 (by decide) (fun c_9 => ?_) (fun c_9 => ?_)
        · have fc_9 : x_8.toInt ≠ 0 := zf_ne c_9 rfl (by decide)
          obtain ⟨x_10, ex_10⟩ : ∃ y : Int32, y = i_13 + 1 := ⟨_, rfl⟩
          have qx_10 : x_10.toInt = i_13.toInt + 1 := dw_inc ex_10 fc_7
          refine lv_iinc (v := x_10) (lv' := [(2, .int x_10), (1, .int v_5), (0, .ref z0)]) hx hb dX6_frailTeeth_41 hl (k := 0) rfl ex_10.symm (by decide) rfl (fun ls hl => ?_)
          refine lv_goto (tgt := 13) hx hb dX6_frailTeeth_44 (by decide) ?_
          exact ih x_10 v_5 _ (lv_sub hl [0, 1, 2] rfl) hbv_5 (show (v_5 : Int32).toInt = zCf fl sz.toInt x_10.toInt.toNat from by (have h8 : (fl i_13.toInt.toNat).toInt = x_8.toInt := (by rw [ex_8]; rfl); have e7 : ((i_13.toInt.toNat : Nat) : Int) = i_13.toInt := (by omega); rw [show x_10.toInt.toNat = i_13.toInt.toNat + 1 from by omega, zCf_s]; rw [if_neg (by rintro ⟨z, -⟩; omega)]; omega)) (show (v_5 : Int32).toInt ≤ x_10.toInt from by omega) (show x_10.toInt ≤ sz.toInt from by omega) (dw_lo hloi_13 qx_10) (dw_hn hni_13 qx_10)
        · have fc_9 : x_8.toInt = 0 := zf_eq c_9 rfl (by decide)
          refine lv_aload_n hx hb dX6_frailTeeth_30 rfl (lv_at hl 2 rfl) ?_
          refine lv_iload_n hx hb dX6_frailTeeth_31 rfl (lv_at hl 0 rfl) ?_
          refine zc_V (As := [.int i_13]) (rest := []) ⟨hx, hb, hml, hown, hts⟩ (c_F_Zip_isFrail l D cI cJ cZ cP cS po z0 zl zs (sz) (at_) (gp) fl ((fun _ => 0)) (i_13) hy0 hy1 hy2 hy3 hy4 hy5 (by omega) (by omega) hp_fl) (cwV 1 hts gX6_frailTeeth_X6_isFrail rfl rfl rfl ⟨rfl, dh_X6_isFrail⟩ ⟨Nat.le_of_ble_eq_true rfl, Nat.le_of_ble_eq_true rfl⟩) hK hN hZ hP (hP.sub [0, 1] rfl) (va_recv (q := (RX6, TX6, 5)) hK hP (ci := 6) (q0 := 0) rfl rfl) rfl hl.1 rfl (Nat.le_of_ble_eq_true rfl) dX6_frailTeeth_32 ⟨Nat.le_of_ble_eq_true rfl, Nat.le_of_ble_eq_true rfl⟩ (fun r_11 hr_11 => ?_)
          obtain ⟨g_12, g_13, hsr_11_0⟩ := hr_11
          refine lv_if_eq (tgt := 41) hx hb dX6_frailTeeth_35 (by decide) (fun c_14 => ?_) (fun c_14 => ?_)
          · have fc_14 : r_11.toInt = 0 := zf_eq c_14 rfl (by decide)
            obtain ⟨x_15, ex_15⟩ : ∃ y : Int32, y = i_13 + 1 := ⟨_, rfl⟩
            have qx_15 : x_15.toInt = i_13.toInt + 1 := dw_inc ex_15 fc_7
            refine lv_iinc (v := x_15) (lv' := [(2, .int x_15), (1, .int v_5), (0, .ref z0)]) hx hb dX6_frailTeeth_41 hl (k := 0) rfl ex_15.symm (by decide) rfl (fun ls hl => ?_)
            refine lv_goto (tgt := 13) hx hb dX6_frailTeeth_44 (by decide) ?_
            exact ih x_15 v_5 _ (lv_sub hl [0, 1, 2] rfl) hbv_5 (show (v_5 : Int32).toInt = zCf fl sz.toInt x_15.toInt.toNat from by (have h8 : (fl i_13.toInt.toNat).toInt = x_8.toInt := (by rw [ex_8]; rfl); have e7 : ((i_13.toInt.toNat : Nat) : Int) = i_13.toInt := (by omega); rw [show x_15.toInt.toNat = i_13.toInt.toNat + 1 from by omega, zCf_s]; first | (rw [if_pos ⟨by omega, by (rw [e7]; exact hsr_11_0.1 (by omega))⟩]; omega) | (rw [if_neg (by rintro ⟨-, z⟩; rw [e7] at z; exact hsr_11_0.2 (by omega) z)]; omega))) (show (v_5 : Int32).toInt ≤ x_15.toInt from by omega) (show x_15.toInt ≤ sz.toInt from by omega) (dw_lo hloi_13 qx_15) (dw_hn hni_13 qx_15)
          · have fc_14 : r_11.toInt ≠ 0 := zf_ne c_14 rfl (by decide)
            obtain ⟨x_16, ex_16⟩ : ∃ y : Int32, y = v_5 + 1 := ⟨_, rfl⟩
            have qx_16 : x_16.toInt = v_5.toInt + 1 := by rw [ex_16]; exact zf_add rfl (by decide) (by omega) (by omega)
            refine lv_iinc (v := x_16) (lv' := [(1, .int x_16), (2, .int i_13), (0, .ref z0)]) hx hb dX6_frailTeeth_38 hl (k := 1) rfl ex_16.symm (by decide) rfl (fun ls hl => ?_)
            obtain ⟨x_17, ex_17⟩ : ∃ y : Int32, y = i_13 + 1 := ⟨_, rfl⟩
            have qx_17 : x_17.toInt = i_13.toInt + 1 := dw_inc ex_17 fc_7
            refine lv_iinc (v := x_17) (lv' := [(2, .int x_17), (1, .int x_16), (0, .ref z0)]) hx hb dX6_frailTeeth_41 hl (k := 1) rfl ex_17.symm (by decide) rfl (fun ls hl => ?_)
            refine lv_goto (tgt := 13) hx hb dX6_frailTeeth_44 (by decide) ?_
            exact ih x_17 x_16 _ (lv_sub hl [0, 1, 2] rfl) ⟨by omega, by omega⟩ (show (x_16 : Int32).toInt = zCf fl sz.toInt x_17.toInt.toNat from by (have h8 : (fl i_13.toInt.toNat).toInt = x_8.toInt := (by rw [ex_8]; rfl); have e7 : ((i_13.toInt.toNat : Nat) : Int) = i_13.toInt := (by omega); rw [show x_17.toInt.toNat = i_13.toInt.toNat + 1 from by omega, zCf_s]; first | (rw [if_pos ⟨by omega, by (rw [e7]; exact hsr_11_0.1 (by omega))⟩]; omega) | (rw [if_neg (by rintro ⟨-, z⟩; rw [e7] at z; exact hsr_11_0.2 (by omega) z)]; omega))) (show (x_16 : Int32).toInt ≤ x_17.toInt from by omega) (show x_17.toInt ≤ sz.toInt from by omega) (dw_lo hloi_13 qx_17) (dw_hn hni_13 qx_17)
  · have fc_4 : r_1.toInt = 0 := zf_eq c_4 rfl (by decide)
    refine lv_iconst (v := 0) hx hb dX6_frailTeeth_7 (by decide) ?_
    exact W.iret (v := 0) hx hb hr (fun t ht hW => ⟨0, rfl, (show (zHd fl sz.toInt → (0 : Int32).toInt = zCf fl sz.toInt sz.toInt.toNat) ∧ (¬ zHd fl sz.toInt → (0 : Int32).toInt = 0) from by (exact ⟨fun h => absurd h (hsr_1_0.2 (by omega)), fun _ => by decide⟩)), ht⟩) (fun q hq => by cases hq) dX6_frailTeeth_8
set_option maxHeartbeats 4000000 in
set_option maxRecDepth 100000 in
theorem c_F_Zip_spareTeeth (l : Launch) (D : va_G) (cI cJ cZ cP cS : ClassId) (po : zPool) (z0 zl zs : Nat) (sz at_ gp : Int32) (fl fs : Nat → Int32)  (hy0 : 4 ≤ sz.toInt) (hy1 : sz.toInt ≤ 40) (hy2 : 0 ≤ at_.toInt) (hy3 : at_.toInt ≤ 40) (hy4 : 1 ≤ gp.toInt) (hy5 : gp.toInt ≤ 9) (hp_fl : zRg fl (0) 1) : Met l yX6_spareTeeth wsX6_spareTeeth ({ frames := 4, cells := 0, slots := 0, locals := 84 }) (va_Pc [.ref z0] (zR D (zKT cI cJ cZ cP cS) po [(z0, .inr (6, [.ref zl, .ref zs, .int sz, .int at_, .int gp])), (zl, .inl (cZ, 40, .inl fl))])) (vp_Si (fun r => ((zHd fl sz.toInt → r.toInt = zMx3 (zSp (-41) fl sz.toInt.toNat)) ∧ (¬ zHd fl sz.toInt → r.toInt = 0)))) 0 0 (fun _ => False) := by
  refine Met.ofW (cc := cX6_spareTeeth) (maxL := 8) (ret := (some .int)) (by decide) rfl ?_
  intro p e s m args below meth c s₁ B hml hv
  obtain ⟨rfl, hP, hK, hN, hZ⟩ := hv
  have hx := B.exec
  have hb := B.bytes
  have hr := B.returns
  have hts := atoms_spec (ws := wsX6_spareTeeth) B.pre
  have hown : s.vm.findClass RX6 = some m.cls := findClass_of_methodNamed B.named
  have hlocks := B.notSynchronized
  have hl := lv_entry ([.ref z0]) (n := 8) (Nat.le_of_ble_eq_true rfl)
  rw [lg_entry_eq]
  generalize (lg_sl ([.ref z0]) ++ List.replicate (8 - (lg_sl ([.ref z0])).length) Slot.unset).toArray = ls at hl ⊢
  replace hl : lv_has ls 8 [(0, .ref z0)] := hl
  refine lv_aload_n hx hb dX6_spareTeeth_0 rfl (lv_at hl 0 rfl) ?_
  refine zc_V (As := []) (rest := []) ⟨hx, hb, hml, hown, hts⟩ (c_F_Zip_isStrong l D cI cJ cZ cP cS po z0 zl zs (sz) (at_) (gp) fl ((fun _ => 0)) hy0 hy1 hy2 hy3 hy4 hy5 hp_fl) (cwV 0 hts gX6_spareTeeth_X6_isStrong rfl rfl rfl ⟨rfl, dh_X6_isStrong⟩ ⟨Nat.le_of_ble_eq_true rfl, Nat.le_of_ble_eq_true rfl⟩) hK hN hZ hP (hP.sub [0, 1] rfl) (va_recv (q := (RX6, TX6, 5)) hK hP (ci := 6) (q0 := 0) rfl rfl) rfl hl.1 rfl (Nat.le_of_ble_eq_true rfl) dX6_spareTeeth_1 ⟨Nat.le_of_ble_eq_true rfl, Nat.le_of_ble_eq_true rfl⟩ (fun r_1 hr_1 => ?_)
  obtain ⟨g_2, g_3, hsr_1_0⟩ := hr_1
  refine lv_if_ne (tgt := 9) hx hb dX6_spareTeeth_4 (by decide) (fun c_4 => ?_) (fun c_4 => ?_)
  · have fc_4 : r_1.toInt ≠ 0 := zf_ne c_4 rfl (by decide)
    refine lv_bipush (v := (-41)) hx hb dX6_spareTeeth_9 (by decide) ?_
    refine lv_istore_n (lv' := [(1, .int (-41)), (0, .ref z0)]) hx hb dX6_spareTeeth_11 rfl hl (by decide) rfl (fun ls hl => ?_)
    refine lv_iconst (v := 0) hx hb dX6_spareTeeth_12 (by decide) ?_
    refine lv_istore_n (lv' := [(2, .int 0), (1, .int (-41)), (0, .ref z0)]) hx hb dX6_spareTeeth_13 rfl hl (by decide) rfl (fun ls hl => ?_)
    refine lv_iload_n hx hb dX6_spareTeeth_14 rfl (lv_at hl 1 rfl) ?_
    refine lv_istore_n (lv' := [(3, .int (-41)), (2, .int 0), (1, .int (-41)), (0, .ref z0)]) hx hb dX6_spareTeeth_15 rfl hl (by decide) rfl (fun ls hl => ?_)
    refine lv_iload_n hx hb dX6_spareTeeth_16 rfl (lv_at hl 2 rfl) ?_
    refine lv_istore (lv' := [(4, .int (-41)), (3, .int (-41)), (2, .int 0), (1, .int (-41)), (0, .ref z0)]) hx hb dX6_spareTeeth_17 hl (by decide) rfl (fun ls hl => ?_)
    refine lv_iconst (v := 0) hx hb dX6_spareTeeth_19 (by decide) ?_
    refine lv_istore (lv' := [(5, .int 0), (4, .int (-41)), (3, .int (-41)), (2, .int 0), (1, .int (-41)), (0, .ref z0)]) hx hb dX6_spareTeeth_20 hl (by decide) rfl (fun ls hl => ?_)
    obtain ⟨i_22, hi_22⟩ : ∃ i : Int32, i = 0 := ⟨_, rfl⟩
    replace hl : lv_has ls 8 [(5, .int i_22), (4, .int (-41)), (3, .int (-41)), (2, .int 0), (1, .int (-41)), (0, .ref z0)] := by rw [hi_22]; exact lv_sub hl [0, 1, 2, 3, 4, 5] rfl
    have h1i_22 : i_22.toInt = 0 := by rw [hi_22]; decide
    obtain ⟨nfu, hni_22⟩ : ∃ nq9 : Nat, sz.toInt ≤ i_22.toInt + (nq9 : Int) := ⟨((sz.toInt : Int) - 0).toNat, by omega⟩
    have hloi_22 : 0 ≤ i_22.toInt := by omega
    obtain ⟨v_5, hv_5⟩ : ∃ g : Int32, g = 0 := ⟨_, rfl⟩
    obtain ⟨v_6, hv_6⟩ : ∃ g : Int32, g = (-41) := ⟨_, rfl⟩
    obtain ⟨v_7, hv_7⟩ : ∃ g : Int32, g = (-41) := ⟨_, rfl⟩
    replace hl : lv_has ls 8 [(5, .int i_22), (4, .int v_7), (3, .int v_6), (2, .int v_5), (1, .int (-41)), (0, .ref z0)] := by rw [hv_5, hv_6, hv_7]; exact hl
    have hbv_5 : -41 ≤ v_5.toInt ∧ v_5.toInt ≤ 40 := by rw [hv_5]; exact ⟨by decide, by decide⟩
    have hbv_6 : -41 ≤ v_6.toInt ∧ v_6.toInt ≤ 40 := by rw [hv_6]; exact ⟨by decide, by decide⟩
    have hbv_7 : -41 ≤ v_7.toInt ∧ v_7.toInt ≤ 40 := by rw [hv_7]; exact ⟨by decide, by decide⟩
    have hvi_22_0 : ((v_5 : Int32).toInt, (v_6 : Int32).toInt, (v_7 : Int32).toInt) = zSp (-41) fl i_22.toInt.toNat := by
      (try rw [hi_22]); (try rw [hv_5]); (try rw [hv_6]); (try rw [hv_7]); (rw [(show ((0 : Int32).toInt.toNat) = 0 from by decide)]; show _ = ((0 : Int), (-41 : Int), (-41 : Int)); decide)
    have hvi_22_1 : (v_5 : Int32).toInt ≤ i_22.toInt ∧ (v_6 : Int32).toInt ≤ i_22.toInt ∧ (v_7 : Int32).toInt ≤ i_22.toInt := by
      (try rw [hi_22]); (try rw [hv_5]); (try rw [hv_6]); (try rw [hv_7]); first | omega | decide
    have hvi_22_2 : i_22.toInt ≤ sz.toInt := by
      (try rw [hi_22]); (try rw [hv_5]); (try rw [hv_6]); (try rw [hv_7]); (have k0 : (0 : Int32).toInt = 0 := (by decide); omega)
    clear h1i_22 hi_22 hv_5 hv_6 hv_7
    revert hni_22
    revert hloi_22
    revert hvi_22_2
    revert hvi_22_1
    revert hvi_22_0
    revert hbv_7
    revert hbv_6
    revert hbv_5
    revert hl
    revert ls
    revert v_7
    revert v_6
    revert v_5
    revert i_22
    induction nfu with
    | zero =>
      intro i_22 v_5 v_6 v_7 ls hl hbv_5 hbv_6 hbv_7 hvi_22_0 hvi_22_1 hvi_22_2 hloi_22 hni_22
      have hzi_22 : sz.toInt ≤ i_22.toInt := by omega
      refine lv_iload hx hb dX6_spareTeeth_22 (lv_at hl 0 rfl) ?_
      refine lv_aload_n hx hb dX6_spareTeeth_24 rfl (lv_at hl 5 rfl) ?_
      refine va_get (D := D) (ci := 6) (v := .int sz) (C := RX6) (T := TX6) (N := 5) hx hb hts hi_X6_spareTeeth_6 hown hK hP 0 rfl rfl 2 (by decide) (hts (.fieldLink RX6 19 "TheLiningsInIt$Zip" "size" "I") (List.mem_of_getElem? (i := 1) rfl)) (fun _ h9 => h9) rfl dX6_spareTeeth_25 ?_
      refine lv_icmp_ge (tgt := 94) hx hb dX6_spareTeeth_28 (by decide) (fun c_8 => ?_) (fun c_8 => ?_)
      · have fc_8 : sz.toInt ≤ i_22.toInt := zf_le c_8 rfl rfl
        refine lv_iload_n hx hb dX6_spareTeeth_94 rfl (lv_at hl 3 rfl) ?_
        refine lv_iload_n hx hb dX6_spareTeeth_95 rfl (lv_at hl 2 rfl) ?_
        refine lv_iload hx hb dX6_spareTeeth_96 (lv_at hl 1 rfl) ?_
        refine va_mmax hx hb (hml.trans hl.1.symm) hown (hts (.methodLink RX6 46 Lib.Math.max.name) (List.mem_of_getElem? (i := 3) rfl)) (hts _ (List.mem_of_getElem? (i := 4) rfl)) (hts _ (List.mem_of_getElem? (i := 5) rfl)) (hts _ (List.mem_of_getElem? (i := 6) rfl)) (Nat.le_of_ble_eq_true rfl) (Nat.le_of_ble_eq_true rfl) (Nat.le_of_ble_eq_true rfl) (Nat.le_of_ble_eq_true rfl) dX6_spareTeeth_98 ?_
        refine lv_topi (fun x_9 ex_9 => ?_)
        have qx_9 := zf_max ex_9 (x1 := v_6.toInt) (y1 := v_7.toInt) rfl rfl
        refine va_mmax hx hb (hml.trans hl.1.symm) hown (hts (.methodLink RX6 46 Lib.Math.max.name) (List.mem_of_getElem? (i := 3) rfl)) (hts _ (List.mem_of_getElem? (i := 4) rfl)) (hts _ (List.mem_of_getElem? (i := 5) rfl)) (hts _ (List.mem_of_getElem? (i := 6) rfl)) (Nat.le_of_ble_eq_true rfl) (Nat.le_of_ble_eq_true rfl) (Nat.le_of_ble_eq_true rfl) (Nat.le_of_ble_eq_true rfl) dX6_spareTeeth_101 ?_
        refine lv_topi (fun x_10 ex_10 => ?_)
        have qx_10 := zf_max ex_10 (x1 := v_5.toInt) (y1 := x_9.toInt) rfl rfl
        exact W.iret (v := x_10) hx hb hr (fun t ht hW => ⟨x_10, rfl, (show (zHd fl sz.toInt → (x_10 : Int32).toInt = zMx3 (zSp (-41) fl sz.toInt.toNat)) ∧ (¬ zHd fl sz.toInt → (x_10 : Int32).toInt = 0) from by (have h9 : i_22.toInt.toNat = sz.toInt.toNat := (by omega); have z := hvi_22_0; rw [h9] at z; refine ⟨fun _ => ?_, fun h => absurd (hsr_1_0.1 (by omega)) h⟩; unfold zMx3; rw [← z]; dsimp only; omega)), ht⟩) (fun q hq => by cases hq) dX6_spareTeeth_104
      · exfalso; have fc_8 : i_22.toInt < sz.toInt := zf_nle c_8 rfl rfl; omega
    | succ nfu ih =>
      intro i_22 v_5 v_6 v_7 ls hl hbv_5 hbv_6 hbv_7 hvi_22_0 hvi_22_1 hvi_22_2 hloi_22 hni_22
      refine lv_iload hx hb dX6_spareTeeth_22 (lv_at hl 0 rfl) ?_
      refine lv_aload_n hx hb dX6_spareTeeth_24 rfl (lv_at hl 5 rfl) ?_
      refine va_get (D := D) (ci := 6) (v := .int sz) (C := RX6) (T := TX6) (N := 5) hx hb hts hi_X6_spareTeeth_6 hown hK hP 0 rfl rfl 2 (by decide) (hts (.fieldLink RX6 19 "TheLiningsInIt$Zip" "size" "I") (List.mem_of_getElem? (i := 1) rfl)) (fun _ h9 => h9) rfl dX6_spareTeeth_25 ?_
      refine lv_icmp_ge (tgt := 94) hx hb dX6_spareTeeth_28 (by decide) (fun c_11 => ?_) (fun c_11 => ?_)
      · have fc_11 : sz.toInt ≤ i_22.toInt := zf_le c_11 rfl rfl
        refine lv_iload_n hx hb dX6_spareTeeth_94 rfl (lv_at hl 3 rfl) ?_
        refine lv_iload_n hx hb dX6_spareTeeth_95 rfl (lv_at hl 2 rfl) ?_
        refine lv_iload hx hb dX6_spareTeeth_96 (lv_at hl 1 rfl) ?_
        refine va_mmax hx hb (hml.trans hl.1.symm) hown (hts (.methodLink RX6 46 Lib.Math.max.name) (List.mem_of_getElem? (i := 3) rfl)) (hts _ (List.mem_of_getElem? (i := 4) rfl)) (hts _ (List.mem_of_getElem? (i := 5) rfl)) (hts _ (List.mem_of_getElem? (i := 6) rfl)) (Nat.le_of_ble_eq_true rfl) (Nat.le_of_ble_eq_true rfl) (Nat.le_of_ble_eq_true rfl) (Nat.le_of_ble_eq_true rfl) dX6_spareTeeth_98 ?_
        refine lv_topi (fun x_12 ex_12 => ?_)
        have qx_12 := zf_max ex_12 (x1 := v_6.toInt) (y1 := v_7.toInt) rfl rfl
        refine va_mmax hx hb (hml.trans hl.1.symm) hown (hts (.methodLink RX6 46 Lib.Math.max.name) (List.mem_of_getElem? (i := 3) rfl)) (hts _ (List.mem_of_getElem? (i := 4) rfl)) (hts _ (List.mem_of_getElem? (i := 5) rfl)) (hts _ (List.mem_of_getElem? (i := 6) rfl)) (Nat.le_of_ble_eq_true rfl) (Nat.le_of_ble_eq_true rfl) (Nat.le_of_ble_eq_true rfl) (Nat.le_of_ble_eq_true rfl) dX6_spareTeeth_101 ?_
        refine lv_topi (fun x_13 ex_13 => ?_)
        have qx_13 := zf_max ex_13 (x1 := v_5.toInt) (y1 := x_12.toInt) rfl rfl
        exact W.iret (v := x_13) hx hb hr (fun t ht hW => ⟨x_13, rfl, (show (zHd fl sz.toInt → (x_13 : Int32).toInt = zMx3 (zSp (-41) fl sz.toInt.toNat)) ∧ (¬ zHd fl sz.toInt → (x_13 : Int32).toInt = 0) from by (have h9 : i_22.toInt.toNat = sz.toInt.toNat := (by omega); have z := hvi_22_0; rw [h9] at z; refine ⟨fun _ => ?_, fun h => absurd (hsr_1_0.1 (by omega)) h⟩; unfold zMx3; rw [← z]; dsimp only; omega)), ht⟩) (fun q hq => by cases hq) dX6_spareTeeth_104
      · have fc_11 : i_22.toInt < sz.toInt := zf_nle c_11 rfl rfl
        refine lv_aload_n hx hb dX6_spareTeeth_31 rfl (lv_at hl 5 rfl) ?_
        refine va_get (D := D) (ci := 6) (v := .ref zl) (C := RX6) (T := TX6) (N := 5) hx hb hts hi_X6_spareTeeth_6 hown hK hP 0 rfl rfl 0 (by decide) (hts (.fieldLink RX6 9 "TheLiningsInIt$Zip" "lacking" "[Z") (List.mem_of_getElem? (i := 2) rfl)) (fun _ h9 => h9) rfl dX6_spareTeeth_32 ?_
        refine lv_iload hx hb dX6_spareTeeth_35 (lv_at hl 0 rfl) ?_
        refine va_zald hx hb hK hP 1 2 rfl rfl (zf_in (by omega) (by omega)) dX6_spareTeeth_37 ?_
        refine lv_topi (fun x_14 ex_14 => ?_)
        have bx_14 : 0 ≤ x_14.toInt ∧ x_14.toInt ≤ 1 := by rw [ex_14]; exact hp_fl _
        refine lv_if_eq (tgt := 45) hx hb dX6_spareTeeth_38 (by decide) (fun c_15 => ?_) (fun c_15 => ?_)
        · have fc_15 : x_14.toInt = 0 := zf_eq c_15 rfl (by decide)
          refine lv_iconst (v := 1) hx hb dX6_spareTeeth_45 (by decide) ?_
          refine lv_istore (lv' := [(6, .int 1), (5, .int i_22), (4, .int v_7), (3, .int v_6), (2, .int v_5), (1, .int (-41)), (0, .ref z0)]) hx hb dX6_spareTeeth_46 hl (by decide) rfl (fun ls hl => ?_)
          refine lv_iload_n hx hb dX6_spareTeeth_48 rfl (lv_at hl 4 rfl) ?_
          refine lv_iload_n hx hb dX6_spareTeeth_49 rfl (lv_at hl 3 rfl) ?_
          refine lv_iload hx hb dX6_spareTeeth_50 (lv_at hl 2 rfl) ?_
          refine va_mmax hx hb (hml.trans hl.1.symm) hown (hts (.methodLink RX6 46 Lib.Math.max.name) (List.mem_of_getElem? (i := 3) rfl)) (hts _ (List.mem_of_getElem? (i := 4) rfl)) (hts _ (List.mem_of_getElem? (i := 5) rfl)) (hts _ (List.mem_of_getElem? (i := 6) rfl)) (Nat.le_of_ble_eq_true rfl) (Nat.le_of_ble_eq_true rfl) (Nat.le_of_ble_eq_true rfl) (Nat.le_of_ble_eq_true rfl) dX6_spareTeeth_52 ?_
          refine lv_topi (fun x_16 ex_16 => ?_)
          have qx_16 := zf_max ex_16 (x1 := v_6.toInt) (y1 := v_7.toInt) rfl rfl
          refine va_mmax hx hb (hml.trans hl.1.symm) hown (hts (.methodLink RX6 46 Lib.Math.max.name) (List.mem_of_getElem? (i := 3) rfl)) (hts _ (List.mem_of_getElem? (i := 4) rfl)) (hts _ (List.mem_of_getElem? (i := 5) rfl)) (hts _ (List.mem_of_getElem? (i := 6) rfl)) (Nat.le_of_ble_eq_true rfl) (Nat.le_of_ble_eq_true rfl) (Nat.le_of_ble_eq_true rfl) (Nat.le_of_ble_eq_true rfl) dX6_spareTeeth_55 ?_
          refine lv_topi (fun x_17 ex_17 => ?_)
          have qx_17 := zf_max ex_17 (x1 := v_5.toInt) (y1 := x_16.toInt) rfl rfl
          refine lv_istore (lv' := [(7, .int x_17), (6, .int 1), (5, .int i_22), (4, .int v_7), (3, .int v_6), (2, .int v_5), (1, .int (-41)), (0, .ref z0)]) hx hb dX6_spareTeeth_58 hl (by decide) rfl (fun ls hl => ?_)
          refine lv_iload_n hx hb dX6_spareTeeth_60 rfl (lv_at hl 4 rfl) ?_
          refine lv_iload hx hb dX6_spareTeeth_61 (lv_at hl 1 rfl) ?_
          refine lv_iadd hx hb dX6_spareTeeth_63 ?_
          refine lv_topi (fun x_18 ex_18 => ?_)
          have qx_18 : x_18.toInt = v_6.toInt + 1 := by rw [ex_18]; exact zf_add rfl (by decide) (by omega) (by omega)
          refine lv_istore (lv' := [(4, .int x_18), (7, .int x_17), (6, .int 1), (5, .int i_22), (3, .int v_6), (2, .int v_5), (1, .int (-41)), (0, .ref z0)]) hx hb dX6_spareTeeth_64 hl (by decide) rfl (fun ls hl => ?_)
          refine lv_iload_n hx hb dX6_spareTeeth_66 rfl (lv_at hl 5 rfl) ?_
          refine lv_iload hx hb dX6_spareTeeth_67 (lv_at hl 2 rfl) ?_
          refine lv_iadd hx hb dX6_spareTeeth_69 ?_
          refine lv_topi (fun x_19 ex_19 => ?_)
          have qx_19 : x_19.toInt = v_5.toInt + 1 := by rw [ex_19]; exact zf_add rfl (by decide) (by omega) (by omega)
          refine lv_istore_n (lv' := [(3, .int x_19), (4, .int x_18), (7, .int x_17), (6, .int 1), (5, .int i_22), (2, .int v_5), (1, .int (-41)), (0, .ref z0)]) hx hb dX6_spareTeeth_70 rfl hl (by decide) rfl (fun ls hl => ?_)
          refine lv_aload_n hx hb dX6_spareTeeth_71 rfl (lv_at hl 7 rfl) ?_
          refine va_get (D := D) (ci := 6) (v := .ref zl) (C := RX6) (T := TX6) (N := 5) hx hb hts hi_X6_spareTeeth_6 hown hK hP 0 rfl rfl 0 (by decide) (hts (.fieldLink RX6 9 "TheLiningsInIt$Zip" "lacking" "[Z") (List.mem_of_getElem? (i := 2) rfl)) (fun _ h9 => h9) rfl dX6_spareTeeth_72 ?_
          refine lv_iload hx hb dX6_spareTeeth_75 (lv_at hl 4 rfl) ?_
          refine va_zald hx hb hK hP 1 2 rfl rfl (zf_in (by omega) (by omega)) dX6_spareTeeth_77 ?_
          refine lv_topi (fun x_20 ex_20 => ?_)
          have bx_20 : 0 ≤ x_20.toInt ∧ x_20.toInt ≤ 1 := by rw [ex_20]; exact hp_fl _
          refine lv_if_eq (tgt := 85) hx hb dX6_spareTeeth_78 (by decide) (fun c_21 => ?_) (fun c_21 => ?_)
          · have fc_21 : x_20.toInt = 0 := zf_eq c_21 rfl (by decide)
            refine lv_iload hx hb dX6_spareTeeth_85 (lv_at hl 2 rfl) ?_
            refine lv_istore_n (lv' := [(2, .int x_17), (3, .int x_19), (4, .int x_18), (7, .int x_17), (6, .int 1), (5, .int i_22), (1, .int (-41)), (0, .ref z0)]) hx hb dX6_spareTeeth_87 rfl hl (by decide) rfl (fun ls hl => ?_)
            obtain ⟨x_22, ex_22⟩ : ∃ y : Int32, y = i_22 + 1 := ⟨_, rfl⟩
            have qx_22 : x_22.toInt = i_22.toInt + 1 := dw_inc ex_22 fc_11
            refine lv_iinc (v := x_22) (lv' := [(5, .int x_22), (2, .int x_17), (3, .int x_19), (4, .int x_18), (7, .int x_17), (6, .int 1), (1, .int (-41)), (0, .ref z0)]) hx hb dX6_spareTeeth_88 hl (k := 5) rfl ex_22.symm (by decide) rfl (fun ls hl => ?_)
            refine lv_goto (tgt := 22) hx hb dX6_spareTeeth_91 (by decide) ?_
            exact ih x_22 x_17 x_19 x_18 _ (lv_sub hl [0, 3, 2, 1, 6, 7] rfl) ⟨by omega, by omega⟩ ⟨by omega, by omega⟩ ⟨by omega, by omega⟩ (show ((x_17 : Int32).toInt, (x_19 : Int32).toInt, (x_18 : Int32).toInt) = zSp (-41) fl x_22.toInt.toNat from by (have h8 : (fl i_22.toInt.toNat).toInt = x_14.toInt := (by rw [ex_14]; rfl); have g0 : (fl i_22.toInt.toNat).toInt = x_20.toInt := (by rw [ex_20]; rfl); rw [show x_22.toInt.toNat = i_22.toInt.toNat + 1 from by omega, zSp_s, ← hvi_22_0]; dsimp only; refine Prod.ext ?_ (Prod.ext ?_ ?_) <;> dsimp only <;> first | (rw [if_pos (by omega)]; first | rfl | omega) | (rw [if_neg (by omega)]; omega) | omega)) (show (x_17 : Int32).toInt ≤ x_22.toInt ∧ (x_19 : Int32).toInt ≤ x_22.toInt ∧ (x_18 : Int32).toInt ≤ x_22.toInt from by (have km : ((-41) : Int32).toInt = -41 := (by decide); omega)) (show x_22.toInt ≤ sz.toInt from by omega) (dw_lo hloi_22 qx_22) (dw_hn hni_22 qx_22)
          · have fc_21 : x_20.toInt ≠ 0 := zf_ne c_21 rfl (by decide)
            refine lv_iload_n hx hb dX6_spareTeeth_81 rfl (lv_at hl 6 rfl) ?_
            refine lv_goto (tgt := 87) hx hb dX6_spareTeeth_82 (by decide) ?_
            refine lv_istore_n (lv' := [(2, .int (-41)), (3, .int x_19), (4, .int x_18), (7, .int x_17), (6, .int 1), (5, .int i_22), (1, .int (-41)), (0, .ref z0)]) hx hb dX6_spareTeeth_87 rfl hl (by decide) rfl (fun ls hl => ?_)
            obtain ⟨x_23, ex_23⟩ : ∃ y : Int32, y = i_22 + 1 := ⟨_, rfl⟩
            have qx_23 : x_23.toInt = i_22.toInt + 1 := dw_inc ex_23 fc_11
            refine lv_iinc (v := x_23) (lv' := [(5, .int x_23), (2, .int (-41)), (3, .int x_19), (4, .int x_18), (7, .int x_17), (6, .int 1), (1, .int (-41)), (0, .ref z0)]) hx hb dX6_spareTeeth_88 hl (k := 5) rfl ex_23.symm (by decide) rfl (fun ls hl => ?_)
            refine lv_goto (tgt := 22) hx hb dX6_spareTeeth_91 (by decide) ?_
            exact ih x_23 (-41) x_19 x_18 _ (lv_sub hl [0, 3, 2, 1, 6, 7] rfl) ⟨by decide, by decide⟩ ⟨by omega, by omega⟩ ⟨by omega, by omega⟩ (show (((-41) : Int32).toInt, (x_19 : Int32).toInt, (x_18 : Int32).toInt) = zSp (-41) fl x_23.toInt.toNat from by (have h8 : (fl i_22.toInt.toNat).toInt = x_14.toInt := (by rw [ex_14]; rfl); have g0 : (fl i_22.toInt.toNat).toInt = x_20.toInt := (by rw [ex_20]; rfl); rw [show x_23.toInt.toNat = i_22.toInt.toNat + 1 from by omega, zSp_s, ← hvi_22_0]; dsimp only; refine Prod.ext ?_ (Prod.ext ?_ ?_) <;> dsimp only <;> first | (rw [if_pos (by omega)]; first | rfl | omega) | (rw [if_neg (by omega)]; omega) | omega)) (show ((-41) : Int32).toInt ≤ x_23.toInt ∧ (x_19 : Int32).toInt ≤ x_23.toInt ∧ (x_18 : Int32).toInt ≤ x_23.toInt from by (have km : ((-41) : Int32).toInt = -41 := (by decide); omega)) (show x_23.toInt ≤ sz.toInt from by omega) (dw_lo hloi_22 qx_23) (dw_hn hni_22 qx_23)
        · have fc_15 : x_14.toInt ≠ 0 := zf_ne c_15 rfl (by decide)
          refine lv_iconst (v := 0) hx hb dX6_spareTeeth_41 (by decide) ?_
          refine lv_goto (tgt := 46) hx hb dX6_spareTeeth_42 (by decide) ?_
          refine lv_istore (lv' := [(6, .int 0), (5, .int i_22), (4, .int v_7), (3, .int v_6), (2, .int v_5), (1, .int (-41)), (0, .ref z0)]) hx hb dX6_spareTeeth_46 hl (by decide) rfl (fun ls hl => ?_)
          refine lv_iload_n hx hb dX6_spareTeeth_48 rfl (lv_at hl 4 rfl) ?_
          refine lv_iload_n hx hb dX6_spareTeeth_49 rfl (lv_at hl 3 rfl) ?_
          refine lv_iload hx hb dX6_spareTeeth_50 (lv_at hl 2 rfl) ?_
          refine va_mmax hx hb (hml.trans hl.1.symm) hown (hts (.methodLink RX6 46 Lib.Math.max.name) (List.mem_of_getElem? (i := 3) rfl)) (hts _ (List.mem_of_getElem? (i := 4) rfl)) (hts _ (List.mem_of_getElem? (i := 5) rfl)) (hts _ (List.mem_of_getElem? (i := 6) rfl)) (Nat.le_of_ble_eq_true rfl) (Nat.le_of_ble_eq_true rfl) (Nat.le_of_ble_eq_true rfl) (Nat.le_of_ble_eq_true rfl) dX6_spareTeeth_52 ?_
          refine lv_topi (fun x_24 ex_24 => ?_)
          have qx_24 := zf_max ex_24 (x1 := v_6.toInt) (y1 := v_7.toInt) rfl rfl
          refine va_mmax hx hb (hml.trans hl.1.symm) hown (hts (.methodLink RX6 46 Lib.Math.max.name) (List.mem_of_getElem? (i := 3) rfl)) (hts _ (List.mem_of_getElem? (i := 4) rfl)) (hts _ (List.mem_of_getElem? (i := 5) rfl)) (hts _ (List.mem_of_getElem? (i := 6) rfl)) (Nat.le_of_ble_eq_true rfl) (Nat.le_of_ble_eq_true rfl) (Nat.le_of_ble_eq_true rfl) (Nat.le_of_ble_eq_true rfl) dX6_spareTeeth_55 ?_
          refine lv_topi (fun x_25 ex_25 => ?_)
          have qx_25 := zf_max ex_25 (x1 := v_5.toInt) (y1 := x_24.toInt) rfl rfl
          refine lv_istore (lv' := [(7, .int x_25), (6, .int 0), (5, .int i_22), (4, .int v_7), (3, .int v_6), (2, .int v_5), (1, .int (-41)), (0, .ref z0)]) hx hb dX6_spareTeeth_58 hl (by decide) rfl (fun ls hl => ?_)
          refine lv_iload_n hx hb dX6_spareTeeth_60 rfl (lv_at hl 4 rfl) ?_
          refine lv_iload hx hb dX6_spareTeeth_61 (lv_at hl 1 rfl) ?_
          refine lv_iadd hx hb dX6_spareTeeth_63 ?_
          refine lv_topi (fun y_26 ey_26 => ?_)
          obtain rfl : v_6 = y_26 := (ey_26.trans (Int32.add_zero v_6)).symm
          refine lv_istore (lv' := [(4, .int v_6), (7, .int x_25), (6, .int 0), (5, .int i_22), (3, .int v_6), (2, .int v_5), (1, .int (-41)), (0, .ref z0)]) hx hb dX6_spareTeeth_64 hl (by decide) rfl (fun ls hl => ?_)
          refine lv_iload_n hx hb dX6_spareTeeth_66 rfl (lv_at hl 5 rfl) ?_
          refine lv_iload hx hb dX6_spareTeeth_67 (lv_at hl 2 rfl) ?_
          refine lv_iadd hx hb dX6_spareTeeth_69 ?_
          refine lv_topi (fun y_27 ey_27 => ?_)
          obtain rfl : v_5 = y_27 := (ey_27.trans (Int32.add_zero v_5)).symm
          refine lv_istore_n (lv' := [(3, .int v_5), (4, .int v_6), (7, .int x_25), (6, .int 0), (5, .int i_22), (2, .int v_5), (1, .int (-41)), (0, .ref z0)]) hx hb dX6_spareTeeth_70 rfl hl (by decide) rfl (fun ls hl => ?_)
          refine lv_aload_n hx hb dX6_spareTeeth_71 rfl (lv_at hl 7 rfl) ?_
          refine va_get (D := D) (ci := 6) (v := .ref zl) (C := RX6) (T := TX6) (N := 5) hx hb hts hi_X6_spareTeeth_6 hown hK hP 0 rfl rfl 0 (by decide) (hts (.fieldLink RX6 9 "TheLiningsInIt$Zip" "lacking" "[Z") (List.mem_of_getElem? (i := 2) rfl)) (fun _ h9 => h9) rfl dX6_spareTeeth_72 ?_
          refine lv_iload hx hb dX6_spareTeeth_75 (lv_at hl 4 rfl) ?_
          refine va_zald hx hb hK hP 1 2 rfl rfl (zf_in (by omega) (by omega)) dX6_spareTeeth_77 ?_
          refine lv_topi (fun x_28 ex_28 => ?_)
          have bx_28 : 0 ≤ x_28.toInt ∧ x_28.toInt ≤ 1 := by rw [ex_28]; exact hp_fl _
          refine lv_if_eq (tgt := 85) hx hb dX6_spareTeeth_78 (by decide) (fun c_29 => ?_) (fun c_29 => ?_)
          · have fc_29 : x_28.toInt = 0 := zf_eq c_29 rfl (by decide)
            refine lv_iload hx hb dX6_spareTeeth_85 (lv_at hl 2 rfl) ?_
            refine lv_istore_n (lv' := [(2, .int x_25), (3, .int v_5), (4, .int v_6), (7, .int x_25), (6, .int 0), (5, .int i_22), (1, .int (-41)), (0, .ref z0)]) hx hb dX6_spareTeeth_87 rfl hl (by decide) rfl (fun ls hl => ?_)
            obtain ⟨x_30, ex_30⟩ : ∃ y : Int32, y = i_22 + 1 := ⟨_, rfl⟩
            have qx_30 : x_30.toInt = i_22.toInt + 1 := dw_inc ex_30 fc_11
            refine lv_iinc (v := x_30) (lv' := [(5, .int x_30), (2, .int x_25), (3, .int v_5), (4, .int v_6), (7, .int x_25), (6, .int 0), (1, .int (-41)), (0, .ref z0)]) hx hb dX6_spareTeeth_88 hl (k := 5) rfl ex_30.symm (by decide) rfl (fun ls hl => ?_)
            refine lv_goto (tgt := 22) hx hb dX6_spareTeeth_91 (by decide) ?_
            exact ih x_30 x_25 v_5 v_6 _ (lv_sub hl [0, 3, 2, 1, 6, 7] rfl) ⟨by omega, by omega⟩ hbv_5 hbv_6 (show ((x_25 : Int32).toInt, (v_5 : Int32).toInt, (v_6 : Int32).toInt) = zSp (-41) fl x_30.toInt.toNat from by (have h8 : (fl i_22.toInt.toNat).toInt = x_14.toInt := (by rw [ex_14]; rfl); have g0 : (fl i_22.toInt.toNat).toInt = x_28.toInt := (by rw [ex_28]; rfl); rw [show x_30.toInt.toNat = i_22.toInt.toNat + 1 from by omega, zSp_s, ← hvi_22_0]; dsimp only; refine Prod.ext ?_ (Prod.ext ?_ ?_) <;> dsimp only <;> first | (rw [if_pos (by omega)]; first | rfl | omega) | (rw [if_neg (by omega)]; omega) | omega)) (show (x_25 : Int32).toInt ≤ x_30.toInt ∧ (v_5 : Int32).toInt ≤ x_30.toInt ∧ (v_6 : Int32).toInt ≤ x_30.toInt from by (have km : ((-41) : Int32).toInt = -41 := (by decide); omega)) (show x_30.toInt ≤ sz.toInt from by omega) (dw_lo hloi_22 qx_30) (dw_hn hni_22 qx_30)
          · have fc_29 : x_28.toInt ≠ 0 := zf_ne c_29 rfl (by decide)
            refine lv_iload_n hx hb dX6_spareTeeth_81 rfl (lv_at hl 6 rfl) ?_
            refine lv_goto (tgt := 87) hx hb dX6_spareTeeth_82 (by decide) ?_
            refine lv_istore_n (lv' := [(2, .int (-41)), (3, .int v_5), (4, .int v_6), (7, .int x_25), (6, .int 0), (5, .int i_22), (1, .int (-41)), (0, .ref z0)]) hx hb dX6_spareTeeth_87 rfl hl (by decide) rfl (fun ls hl => ?_)
            obtain ⟨x_31, ex_31⟩ : ∃ y : Int32, y = i_22 + 1 := ⟨_, rfl⟩
            have qx_31 : x_31.toInt = i_22.toInt + 1 := dw_inc ex_31 fc_11
            refine lv_iinc (v := x_31) (lv' := [(5, .int x_31), (2, .int (-41)), (3, .int v_5), (4, .int v_6), (7, .int x_25), (6, .int 0), (1, .int (-41)), (0, .ref z0)]) hx hb dX6_spareTeeth_88 hl (k := 5) rfl ex_31.symm (by decide) rfl (fun ls hl => ?_)
            refine lv_goto (tgt := 22) hx hb dX6_spareTeeth_91 (by decide) ?_
            exact ih x_31 (-41) v_5 v_6 _ (lv_sub hl [0, 3, 2, 1, 6, 7] rfl) ⟨by decide, by decide⟩ hbv_5 hbv_6 (show (((-41) : Int32).toInt, (v_5 : Int32).toInt, (v_6 : Int32).toInt) = zSp (-41) fl x_31.toInt.toNat from by (have h8 : (fl i_22.toInt.toNat).toInt = x_14.toInt := (by rw [ex_14]; rfl); have g0 : (fl i_22.toInt.toNat).toInt = x_28.toInt := (by rw [ex_28]; rfl); rw [show x_31.toInt.toNat = i_22.toInt.toNat + 1 from by omega, zSp_s, ← hvi_22_0]; dsimp only; refine Prod.ext ?_ (Prod.ext ?_ ?_) <;> dsimp only <;> first | (rw [if_pos (by omega)]; first | rfl | omega) | (rw [if_neg (by omega)]; omega) | omega)) (show ((-41) : Int32).toInt ≤ x_31.toInt ∧ (v_5 : Int32).toInt ≤ x_31.toInt ∧ (v_6 : Int32).toInt ≤ x_31.toInt from by (have km : ((-41) : Int32).toInt = -41 := (by decide); omega)) (show x_31.toInt ≤ sz.toInt from by omega) (dw_lo hloi_22 qx_31) (dw_hn hni_22 qx_31)
  · have fc_4 : r_1.toInt = 0 := zf_eq c_4 rfl (by decide)
    refine lv_iconst (v := 0) hx hb dX6_spareTeeth_7 (by decide) ?_
    exact W.iret (v := 0) hx hb hr (fun t ht hW => ⟨0, rfl, (show (zHd fl sz.toInt → (0 : Int32).toInt = zMx3 (zSp (-41) fl sz.toInt.toNat)) ∧ (¬ zHd fl sz.toInt → (0 : Int32).toInt = 0) from by (exact ⟨fun h => absurd h (hsr_1_0.2 (by omega)), fun _ => by decide⟩)), ht⟩) (fun q hq => by cases hq) dX6_spareTeeth_8
set_option maxHeartbeats 4000000 in
set_option maxRecDepth 100000 in
theorem c_F_Zip_lackingTeeth (l : Launch) (D : va_G) (cI cJ cZ cP cS : ClassId) (po : zPool) (z0 zl zs : Nat) (sz at_ gp : Int32) (fl fs : Nat → Int32)  (hy0 : 4 ≤ sz.toInt) (hy1 : sz.toInt ≤ 40) (hy2 : 0 ≤ at_.toInt) (hy3 : at_.toInt ≤ 40) (hy4 : 1 ≤ gp.toInt) (hy5 : gp.toInt ≤ 9) (hp_fl : zRg fl (0) 1) : Met l yX6_lackingTeeth wsX6_lackingTeeth ({ frames := 0, cells := 0, slots := 0, locals := 0 }) (va_Pc [.ref z0] (zR D (zKT cI cJ cZ cP cS) po [(z0, .inr (6, [.ref zl, .ref zs, .int sz, .int at_, .int gp])), (zl, .inl (cZ, 40, .inl fl))])) (vp_Si (fun r => (r.toInt = zCl fl sz.toInt.toNat))) 0 0 (fun _ => False) := by
  refine Met.ofW (cc := cX6_lackingTeeth) (maxL := 3) (ret := (some .int)) (by decide) rfl ?_
  intro p e s m args below meth c s₁ B hml hv
  obtain ⟨rfl, hP, hK, hN, hZ⟩ := hv
  have hx := B.exec
  have hb := B.bytes
  have hr := B.returns
  have hts := atoms_spec (ws := wsX6_lackingTeeth) B.pre
  have hown : s.vm.findClass RX6 = some m.cls := findClass_of_methodNamed B.named
  have hlocks := B.notSynchronized
  have hl := lv_entry ([.ref z0]) (n := 3) (Nat.le_of_ble_eq_true rfl)
  rw [lg_entry_eq]
  generalize (lg_sl ([.ref z0]) ++ List.replicate (3 - (lg_sl ([.ref z0])).length) Slot.unset).toArray = ls at hl ⊢
  replace hl : lv_has ls 3 [(0, .ref z0)] := hl
  refine lv_iconst (v := 0) hx hb dX6_lackingTeeth_0 (by decide) ?_
  refine lv_istore_n (lv' := [(1, .int 0), (0, .ref z0)]) hx hb dX6_lackingTeeth_1 rfl hl (by decide) rfl (fun ls hl => ?_)
  refine lv_iconst (v := 0) hx hb dX6_lackingTeeth_2 (by decide) ?_
  refine lv_istore_n (lv' := [(2, .int 0), (1, .int 0), (0, .ref z0)]) hx hb dX6_lackingTeeth_3 rfl hl (by decide) rfl (fun ls hl => ?_)
  obtain ⟨i_4, hi_4⟩ : ∃ i : Int32, i = 0 := ⟨_, rfl⟩
  replace hl : lv_has ls 3 [(2, .int i_4), (1, .int 0), (0, .ref z0)] := by rw [hi_4]; exact lv_sub hl [0, 1, 2] rfl
  have h1i_4 : i_4.toInt = 0 := by rw [hi_4]; decide
  obtain ⟨nfu, hni_4⟩ : ∃ nq9 : Nat, sz.toInt ≤ i_4.toInt + (nq9 : Int) := ⟨((sz.toInt : Int) - 0).toNat, by omega⟩
  have hloi_4 : 0 ≤ i_4.toInt := by omega
  obtain ⟨v_1, hv_1⟩ : ∃ g : Int32, g = 0 := ⟨_, rfl⟩
  replace hl : lv_has ls 3 [(2, .int i_4), (1, .int v_1), (0, .ref z0)] := by rw [hv_1]; exact hl
  have hbv_1 : 0 ≤ v_1.toInt ∧ v_1.toInt ≤ 40 := by rw [hv_1]; exact ⟨by decide, by decide⟩
  have hvi_4_0 : (v_1 : Int32).toInt = zCl fl i_4.toInt.toNat := by
    (try rw [hi_4]); (try rw [hv_1]); (rw [(show ((0 : Int32).toInt.toNat) = 0 from by decide)]; show (0 : Int32).toInt = 0; decide)
  have hvi_4_1 : (v_1 : Int32).toInt ≤ i_4.toInt := by
    (try rw [hi_4]); (try rw [hv_1]); first | omega | decide
  have hvi_4_2 : i_4.toInt ≤ sz.toInt := by
    (try rw [hi_4]); (try rw [hv_1]); (have k0 : (0 : Int32).toInt = 0 := (by decide); omega)
  clear h1i_4 hi_4 hv_1
  revert hni_4
  revert hloi_4
  revert hvi_4_2
  revert hvi_4_1
  revert hvi_4_0
  revert hbv_1
  revert hl
  revert ls
  revert v_1
  revert i_4
  induction nfu with
  | zero =>
    intro i_4 v_1 ls hl hbv_1 hvi_4_0 hvi_4_1 hvi_4_2 hloi_4 hni_4
    have hzi_4 : sz.toInt ≤ i_4.toInt := by omega
    refine lv_iload_n hx hb dX6_lackingTeeth_4 rfl (lv_at hl 0 rfl) ?_
    refine lv_aload_n hx hb dX6_lackingTeeth_5 rfl (lv_at hl 2 rfl) ?_
    refine va_get (D := D) (ci := 6) (v := .int sz) (C := RX6) (T := TX6) (N := 5) hx hb hts hi_X6_lackingTeeth_6 hown hK hP 0 rfl rfl 2 (by decide) (hts (.fieldLink RX6 19 "TheLiningsInIt$Zip" "size" "I") (List.mem_of_getElem? (i := 1) rfl)) (fun _ h9 => h9) rfl dX6_lackingTeeth_6 ?_
    refine lv_icmp_ge (tgt := 30) hx hb dX6_lackingTeeth_9 (by decide) (fun c_2 => ?_) (fun c_2 => ?_)
    · have fc_2 : sz.toInt ≤ i_4.toInt := zf_le c_2 rfl rfl
      refine lv_iload_n hx hb dX6_lackingTeeth_30 rfl (lv_at hl 1 rfl) ?_
      exact W.iret (v := v_1) hx hb hr (fun t ht hW => ⟨v_1, rfl, (show (v_1 : Int32).toInt = zCl fl sz.toInt.toNat from by (have h9 : i_4.toInt.toNat = sz.toInt.toNat := (by omega); have z := hvi_4_0; rw [h9] at z; exact z)), ht⟩) (fun q hq => by cases hq) dX6_lackingTeeth_31
    · exfalso; have fc_2 : i_4.toInt < sz.toInt := zf_nle c_2 rfl rfl; omega
  | succ nfu ih =>
    intro i_4 v_1 ls hl hbv_1 hvi_4_0 hvi_4_1 hvi_4_2 hloi_4 hni_4
    refine lv_iload_n hx hb dX6_lackingTeeth_4 rfl (lv_at hl 0 rfl) ?_
    refine lv_aload_n hx hb dX6_lackingTeeth_5 rfl (lv_at hl 2 rfl) ?_
    refine va_get (D := D) (ci := 6) (v := .int sz) (C := RX6) (T := TX6) (N := 5) hx hb hts hi_X6_lackingTeeth_6 hown hK hP 0 rfl rfl 2 (by decide) (hts (.fieldLink RX6 19 "TheLiningsInIt$Zip" "size" "I") (List.mem_of_getElem? (i := 1) rfl)) (fun _ h9 => h9) rfl dX6_lackingTeeth_6 ?_
    refine lv_icmp_ge (tgt := 30) hx hb dX6_lackingTeeth_9 (by decide) (fun c_3 => ?_) (fun c_3 => ?_)
    · have fc_3 : sz.toInt ≤ i_4.toInt := zf_le c_3 rfl rfl
      refine lv_iload_n hx hb dX6_lackingTeeth_30 rfl (lv_at hl 1 rfl) ?_
      exact W.iret (v := v_1) hx hb hr (fun t ht hW => ⟨v_1, rfl, (show (v_1 : Int32).toInt = zCl fl sz.toInt.toNat from by (have h9 : i_4.toInt.toNat = sz.toInt.toNat := (by omega); have z := hvi_4_0; rw [h9] at z; exact z)), ht⟩) (fun q hq => by cases hq) dX6_lackingTeeth_31
    · have fc_3 : i_4.toInt < sz.toInt := zf_nle c_3 rfl rfl
      refine lv_aload_n hx hb dX6_lackingTeeth_12 rfl (lv_at hl 2 rfl) ?_
      refine va_get (D := D) (ci := 6) (v := .ref zl) (C := RX6) (T := TX6) (N := 5) hx hb hts hi_X6_lackingTeeth_6 hown hK hP 0 rfl rfl 0 (by decide) (hts (.fieldLink RX6 9 "TheLiningsInIt$Zip" "lacking" "[Z") (List.mem_of_getElem? (i := 2) rfl)) (fun _ h9 => h9) rfl dX6_lackingTeeth_13 ?_
      refine lv_iload_n hx hb dX6_lackingTeeth_16 rfl (lv_at hl 0 rfl) ?_
      refine va_zald hx hb hK hP 1 2 rfl rfl (zf_in (by omega) (by omega)) dX6_lackingTeeth_17 ?_
      refine lv_topi (fun x_4 ex_4 => ?_)
      have bx_4 : 0 ≤ x_4.toInt ∧ x_4.toInt ≤ 1 := by rw [ex_4]; exact hp_fl _
      refine lv_if_eq (tgt := 24) hx hb dX6_lackingTeeth_18 (by decide) (fun c_5 => ?_) (fun c_5 => ?_)
      · have fc_5 : x_4.toInt = 0 := zf_eq c_5 rfl (by decide)
        obtain ⟨x_6, ex_6⟩ : ∃ y : Int32, y = i_4 + 1 := ⟨_, rfl⟩
        have qx_6 : x_6.toInt = i_4.toInt + 1 := dw_inc ex_6 fc_3
        refine lv_iinc (v := x_6) (lv' := [(2, .int x_6), (1, .int v_1), (0, .ref z0)]) hx hb dX6_lackingTeeth_24 hl (k := 0) rfl ex_6.symm (by decide) rfl (fun ls hl => ?_)
        refine lv_goto (tgt := 4) hx hb dX6_lackingTeeth_27 (by decide) ?_
        exact ih x_6 v_1 _ (lv_sub hl [0, 1, 2] rfl) hbv_1 (show (v_1 : Int32).toInt = zCl fl x_6.toInt.toNat from by (have h8 : (fl i_4.toInt.toNat).toInt = x_4.toInt := (by rw [ex_4]; rfl); rw [show x_6.toInt.toNat = i_4.toInt.toNat + 1 from by omega, zCl_s]; omega)) (show (v_1 : Int32).toInt ≤ x_6.toInt from by omega) (show x_6.toInt ≤ sz.toInt from by omega) (dw_lo hloi_4 qx_6) (dw_hn hni_4 qx_6)
      · have fc_5 : x_4.toInt ≠ 0 := zf_ne c_5 rfl (by decide)
        obtain ⟨x_7, ex_7⟩ : ∃ y : Int32, y = v_1 + 1 := ⟨_, rfl⟩
        have qx_7 : x_7.toInt = v_1.toInt + 1 := by rw [ex_7]; exact zf_add rfl (by decide) (by omega) (by omega)
        refine lv_iinc (v := x_7) (lv' := [(1, .int x_7), (2, .int i_4), (0, .ref z0)]) hx hb dX6_lackingTeeth_21 hl (k := 1) rfl ex_7.symm (by decide) rfl (fun ls hl => ?_)
        obtain ⟨x_8, ex_8⟩ : ∃ y : Int32, y = i_4 + 1 := ⟨_, rfl⟩
        have qx_8 : x_8.toInt = i_4.toInt + 1 := dw_inc ex_8 fc_3
        refine lv_iinc (v := x_8) (lv' := [(2, .int x_8), (1, .int x_7), (0, .ref z0)]) hx hb dX6_lackingTeeth_24 hl (k := 1) rfl ex_8.symm (by decide) rfl (fun ls hl => ?_)
        refine lv_goto (tgt := 4) hx hb dX6_lackingTeeth_27 (by decide) ?_
        exact ih x_8 x_7 _ (lv_sub hl [0, 1, 2] rfl) ⟨by omega, by omega⟩ (show (x_7 : Int32).toInt = zCl fl x_8.toInt.toNat from by (have h8 : (fl i_4.toInt.toNat).toInt = x_4.toInt := (by rw [ex_4]; rfl); rw [show x_8.toInt.toNat = i_4.toInt.toNat + 1 from by omega, zCl_s]; omega)) (show (x_7 : Int32).toInt ≤ x_8.toInt from by omega) (show x_8.toInt ≤ sz.toInt from by omega) (dw_lo hloi_4 qx_8) (dw_hn hni_4 qx_8)
set_option maxHeartbeats 4000000 in
set_option maxRecDepth 100000 in
theorem c_F_Zip_catchingTeeth (l : Launch) (D : va_G) (cI cJ cZ cP cS : ClassId) (po : zPool) (z0 zl zs : Nat) (sz at_ gp : Int32) (fl fs : Nat → Int32) (i : Int32) (hy0 : 4 ≤ sz.toInt) (hy1 : sz.toInt ≤ 40) (hy2 : 0 ≤ at_.toInt) (hy3 : at_.toInt ≤ 40) (hy4 : 1 ≤ gp.toInt) (hy5 : gp.toInt ≤ 9) (hp_fl : zRg fl (0) 1) (hp_fs : zRg fs (0) 9) : Met l yX6_catchingTeeth wsX6_catchingTeeth ({ frames := 2, cells := 0, slots := 0, locals := 42 }) (va_Pc [.ref z0, .int i] (zR D (zKT cI cJ cZ cP cS) po [(z0, .inr (6, [.ref zl, .ref zs, .int sz, .int at_, .int gp])), (zl, .inl (cZ, 40, .inl fl)), (zs, .inl (cI, 40, .inl fs))])) (vp_Si (fun r => (zCat fl fs gp.toInt sz.toInt i.toInt r.toInt))) 0 0 (fun _ => False) := by
  refine Met.ofW (cc := cX6_catchingTeeth) (maxL := 4) (ret := (some .int)) (by decide) rfl ?_
  intro p e s m args below meth c s₁ B hml hv
  obtain ⟨rfl, hP, hK, hN, hZ⟩ := hv
  have hx := B.exec
  have hb := B.bytes
  have hr := B.returns
  have hts := atoms_spec (ws := wsX6_catchingTeeth) B.pre
  have hown : s.vm.findClass RX6 = some m.cls := findClass_of_methodNamed B.named
  have hlocks := B.notSynchronized
  have hl := lv_entry ([.ref z0, .int i]) (n := 4) (Nat.le_of_ble_eq_true rfl)
  rw [lg_entry_eq]
  generalize (lg_sl ([.ref z0, .int i]) ++ List.replicate (4 - (lg_sl ([.ref z0, .int i])).length) Slot.unset).toArray = ls at hl ⊢
  replace hl : lv_has ls 4 [(0, .ref z0), (1, .int i)] := hl
  refine lv_iconst (v := 0) hx hb dX6_catchingTeeth_0 (by decide) ?_
  refine lv_istore_n (lv' := [(2, .int 0), (0, .ref z0), (1, .int i)]) hx hb dX6_catchingTeeth_1 rfl hl (by decide) rfl (fun ls hl => ?_)
  refine lv_iconst (v := 0) hx hb dX6_catchingTeeth_2 (by decide) ?_
  refine lv_istore_n (lv' := [(3, .int 0), (2, .int 0), (0, .ref z0), (1, .int i)]) hx hb dX6_catchingTeeth_3 rfl hl (by decide) rfl (fun ls hl => ?_)
  obtain ⟨i_4, hi_4⟩ : ∃ i : Int32, i = 0 := ⟨_, rfl⟩
  replace hl : lv_has ls 4 [(3, .int i_4), (2, .int 0), (0, .ref z0), (1, .int i)] := by rw [hi_4]; exact lv_sub hl [0, 1, 2, 3] rfl
  have h1i_4 : i_4.toInt = 0 := by rw [hi_4]; decide
  obtain ⟨nfu, hni_4⟩ : ∃ nq9 : Nat, sz.toInt ≤ i_4.toInt + (nq9 : Int) := ⟨((sz.toInt : Int) - 0).toNat, by omega⟩
  have hloi_4 : 0 ≤ i_4.toInt := by omega
  obtain ⟨v_1, hv_1⟩ : ∃ g : Int32, g = 0 := ⟨_, rfl⟩
  replace hl : lv_has ls 4 [(3, .int i_4), (2, .int v_1), (0, .ref z0), (1, .int i)] := by rw [hv_1]; exact hl
  have hbv_1 : 0 ≤ v_1.toInt ∧ v_1.toInt ≤ 40 := by rw [hv_1]; exact ⟨by decide, by decide⟩
  have hvi_4_0 : (v_1 : Int32).toInt = zCn fl fs gp.toInt i_4.toInt.toNat := by
    (try rw [hi_4]); (try rw [hv_1]); (rw [(show ((0 : Int32).toInt.toNat) = 0 from by decide)]; show (0 : Int32).toInt = 0; decide)
  have hvi_4_1 : (∀ t : Nat, (t : Int) < i_4.toInt → zCa fl fs gp.toInt (t : Int) → zCn fl fs gp.toInt t ≠ i.toInt) := by
    (try rw [hi_4]); (try rw [hv_1]); (intro t h1 h2; exfalso; have k0 : (0 : Int32).toInt = 0 := (by decide); omega)
  have hvi_4_2 : (v_1 : Int32).toInt ≤ i_4.toInt := by
    (try rw [hi_4]); (try rw [hv_1]); first | omega | decide
  have hvi_4_3 : i_4.toInt ≤ sz.toInt := by
    (try rw [hi_4]); (try rw [hv_1]); (have k0 : (0 : Int32).toInt = 0 := (by decide); omega)
  clear h1i_4 hi_4 hv_1
  revert hni_4
  revert hloi_4
  revert hvi_4_3
  revert hvi_4_2
  revert hvi_4_1
  revert hvi_4_0
  revert hbv_1
  revert hl
  revert ls
  revert v_1
  revert i_4
  induction nfu with
  | zero =>
    intro i_4 v_1 ls hl hbv_1 hvi_4_0 hvi_4_1 hvi_4_2 hvi_4_3 hloi_4 hni_4
    have hzi_4 : sz.toInt ≤ i_4.toInt := by omega
    refine lv_iload_n hx hb dX6_catchingTeeth_4 rfl (lv_at hl 0 rfl) ?_
    refine lv_aload_n hx hb dX6_catchingTeeth_5 rfl (lv_at hl 2 rfl) ?_
    refine va_get (D := D) (ci := 6) (v := .int sz) (C := RX6) (T := TX6) (N := 5) hx hb hts hi_X6_catchingTeeth_6 hown hK hP 0 rfl rfl 2 (by decide) (hts (.fieldLink RX6 19 "TheLiningsInIt$Zip" "size" "I") (List.mem_of_getElem? (i := 1) rfl)) (fun _ h9 => h9) rfl dX6_catchingTeeth_6 ?_
    refine lv_icmp_ge (tgt := 36) hx hb dX6_catchingTeeth_9 (by decide) (fun c_2 => ?_) (fun c_2 => ?_)
    · have fc_2 : sz.toInt ≤ i_4.toInt := zf_le c_2 rfl rfl
      refine lv_iload_n hx hb dX6_catchingTeeth_36 rfl (lv_at hl 3 rfl) ?_
      refine lv_iconst (v := (-1)) hx hb dX6_catchingTeeth_37 (by decide) ?_
      refine lv_icmp_ne (tgt := 45) hx hb dX6_catchingTeeth_38 (by decide) (fun c_3 => ?_) (fun c_3 => ?_)
      · have fc_3 : i.toInt ≠ (-1) := zf_ne c_3 rfl (by decide)
        refine lv_iconst (v := (-1)) hx hb dX6_catchingTeeth_45 (by decide) ?_
        exact W.iret (v := (-1)) hx hb hr (fun t ht hW => ⟨(-1), rfl, (show zCat fl fs gp.toInt sz.toInt i.toInt ((-1) : Int32).toInt from by (have km : ((-1) : Int32).toInt = -1 := (by decide); have h9 : i_4.toInt.toNat = sz.toInt.toNat := (by omega); have z := hvi_4_0; rw [h9] at z; refine Or.inr ⟨fun t h1 h2 => hvi_4_1 t (by omega) h2, ?_⟩; first | (rw [if_pos (by omega)]; exact z) | (rw [if_neg (by omega)]; exact km))), ht⟩) (fun q hq => by cases hq) dX6_catchingTeeth_46
      · have fc_3 : i.toInt = (-1) := zf_eq c_3 rfl (by decide)
        refine lv_iload_n hx hb dX6_catchingTeeth_41 rfl (lv_at hl 1 rfl) ?_
        refine lv_goto (tgt := 46) hx hb dX6_catchingTeeth_42 (by decide) ?_
        exact W.iret (v := v_1) hx hb hr (fun t ht hW => ⟨v_1, rfl, (show zCat fl fs gp.toInt sz.toInt i.toInt (v_1 : Int32).toInt from by (have km : ((-1) : Int32).toInt = -1 := (by decide); have h9 : i_4.toInt.toNat = sz.toInt.toNat := (by omega); have z := hvi_4_0; rw [h9] at z; refine Or.inr ⟨fun t h1 h2 => hvi_4_1 t (by omega) h2, ?_⟩; first | (rw [if_pos (by omega)]; exact z) | (rw [if_neg (by omega)]; exact km))), ht⟩) (fun q hq => by cases hq) dX6_catchingTeeth_46
    · exfalso; have fc_2 : i_4.toInt < sz.toInt := zf_nle c_2 rfl rfl; omega
  | succ nfu ih =>
    intro i_4 v_1 ls hl hbv_1 hvi_4_0 hvi_4_1 hvi_4_2 hvi_4_3 hloi_4 hni_4
    refine lv_iload_n hx hb dX6_catchingTeeth_4 rfl (lv_at hl 0 rfl) ?_
    refine lv_aload_n hx hb dX6_catchingTeeth_5 rfl (lv_at hl 2 rfl) ?_
    refine va_get (D := D) (ci := 6) (v := .int sz) (C := RX6) (T := TX6) (N := 5) hx hb hts hi_X6_catchingTeeth_6 hown hK hP 0 rfl rfl 2 (by decide) (hts (.fieldLink RX6 19 "TheLiningsInIt$Zip" "size" "I") (List.mem_of_getElem? (i := 1) rfl)) (fun _ h9 => h9) rfl dX6_catchingTeeth_6 ?_
    refine lv_icmp_ge (tgt := 36) hx hb dX6_catchingTeeth_9 (by decide) (fun c_4 => ?_) (fun c_4 => ?_)
    · have fc_4 : sz.toInt ≤ i_4.toInt := zf_le c_4 rfl rfl
      refine lv_iload_n hx hb dX6_catchingTeeth_36 rfl (lv_at hl 3 rfl) ?_
      refine lv_iconst (v := (-1)) hx hb dX6_catchingTeeth_37 (by decide) ?_
      refine lv_icmp_ne (tgt := 45) hx hb dX6_catchingTeeth_38 (by decide) (fun c_5 => ?_) (fun c_5 => ?_)
      · have fc_5 : i.toInt ≠ (-1) := zf_ne c_5 rfl (by decide)
        refine lv_iconst (v := (-1)) hx hb dX6_catchingTeeth_45 (by decide) ?_
        exact W.iret (v := (-1)) hx hb hr (fun t ht hW => ⟨(-1), rfl, (show zCat fl fs gp.toInt sz.toInt i.toInt ((-1) : Int32).toInt from by (have km : ((-1) : Int32).toInt = -1 := (by decide); have h9 : i_4.toInt.toNat = sz.toInt.toNat := (by omega); have z := hvi_4_0; rw [h9] at z; refine Or.inr ⟨fun t h1 h2 => hvi_4_1 t (by omega) h2, ?_⟩; first | (rw [if_pos (by omega)]; exact z) | (rw [if_neg (by omega)]; exact km))), ht⟩) (fun q hq => by cases hq) dX6_catchingTeeth_46
      · have fc_5 : i.toInt = (-1) := zf_eq c_5 rfl (by decide)
        refine lv_iload_n hx hb dX6_catchingTeeth_41 rfl (lv_at hl 1 rfl) ?_
        refine lv_goto (tgt := 46) hx hb dX6_catchingTeeth_42 (by decide) ?_
        exact W.iret (v := v_1) hx hb hr (fun t ht hW => ⟨v_1, rfl, (show zCat fl fs gp.toInt sz.toInt i.toInt (v_1 : Int32).toInt from by (have km : ((-1) : Int32).toInt = -1 := (by decide); have h9 : i_4.toInt.toNat = sz.toInt.toNat := (by omega); have z := hvi_4_0; rw [h9] at z; refine Or.inr ⟨fun t h1 h2 => hvi_4_1 t (by omega) h2, ?_⟩; first | (rw [if_pos (by omega)]; exact z) | (rw [if_neg (by omega)]; exact km))), ht⟩) (fun q hq => by cases hq) dX6_catchingTeeth_46
    · have fc_4 : i_4.toInt < sz.toInt := zf_nle c_4 rfl rfl
      refine lv_aload_n hx hb dX6_catchingTeeth_12 rfl (lv_at hl 2 rfl) ?_
      refine lv_iload_n hx hb dX6_catchingTeeth_13 rfl (lv_at hl 0 rfl) ?_
      refine zc_V (As := [.int i_4]) (rest := []) ⟨hx, hb, hml, hown, hts⟩ (c_F_Zip_catchesAt l D cI cJ cZ cP cS po z0 zl zs (sz) (at_) (gp) fl fs (i_4) hy0 hy1 hy2 hy3 hy4 hy5 hp_fl hp_fs) (cwV 1 hts gX6_catchingTeeth_X6_catchesAt rfl rfl rfl ⟨rfl, dh_X6_catchesAt⟩ ⟨Nat.le_of_ble_eq_true rfl, Nat.le_of_ble_eq_true rfl⟩) hK hN hZ hP (hP.sub [0, 1, 2] rfl) (va_recv (q := (RX6, TX6, 5)) hK hP (ci := 6) (q0 := 0) rfl rfl) rfl hl.1 rfl (Nat.le_of_ble_eq_true rfl) dX6_catchingTeeth_14 ⟨Nat.le_of_ble_eq_true rfl, Nat.le_of_ble_eq_true rfl⟩ (fun r_6 hr_6 => ?_)
      obtain ⟨g_7, g_8, hsr_6_0⟩ := hr_6
      refine lv_if_eq (tgt := 30) hx hb dX6_catchingTeeth_17 (by decide) (fun c_9 => ?_) (fun c_9 => ?_)
      · have fc_9 : r_6.toInt = 0 := zf_eq c_9 rfl (by decide)
        obtain ⟨x_10, ex_10⟩ : ∃ y : Int32, y = i_4 + 1 := ⟨_, rfl⟩
        have qx_10 : x_10.toInt = i_4.toInt + 1 := dw_inc ex_10 fc_4
        refine lv_iinc (v := x_10) (lv' := [(3, .int x_10), (2, .int v_1), (0, .ref z0), (1, .int i)]) hx hb dX6_catchingTeeth_30 hl (k := 0) rfl ex_10.symm (by decide) rfl (fun ls hl => ?_)
        refine lv_goto (tgt := 4) hx hb dX6_catchingTeeth_33 (by decide) ?_
        exact ih x_10 v_1 _ (lv_sub hl [0, 1, 2, 3] rfl) hbv_1 (show (v_1 : Int32).toInt = zCn fl fs gp.toInt x_10.toInt.toNat from by (have e7 : ((i_4.toInt.toNat : Nat) : Int) = i_4.toInt := (by omega); rw [show x_10.toInt.toNat = i_4.toInt.toNat + 1 from by omega, zCn_s]; first | (rw [if_pos (by rw [e7]; exact (hsr_6_0.1 (by omega)).2.2)]; omega) | (rw [if_neg (by rw [e7]; exact fun z => hsr_6_0.2 (by omega) ⟨by omega, by omega, z⟩)]; omega))) (show (∀ t : Nat, (t : Int) < x_10.toInt → zCa fl fs gp.toInt (t : Int) → zCn fl fs gp.toInt t ≠ i.toInt) from by (intro t h1 h2; rcases (show (t : Int) < i_4.toInt ∨ (t : Int) = i_4.toInt by omega) with h3 | h3; (exact hvi_4_1 t h3 h2); (have h4 : t = i_4.toInt.toNat := (by omega); first | (rw [h4, ← hvi_4_0]; omega) | (exact absurd ⟨by omega, by omega, by rw [← h3]; exact h2⟩ (hsr_6_0.2 (by omega)))))) (show (v_1 : Int32).toInt ≤ x_10.toInt from by omega) (show x_10.toInt ≤ sz.toInt from by omega) (dw_lo hloi_4 qx_10) (dw_hn hni_4 qx_10)
      · have fc_9 : r_6.toInt ≠ 0 := zf_ne c_9 rfl (by decide)
        refine lv_iload_n hx hb dX6_catchingTeeth_20 rfl (lv_at hl 1 rfl) ?_
        refine lv_iload_n hx hb dX6_catchingTeeth_21 rfl (lv_at hl 3 rfl) ?_
        refine lv_icmp_ne (tgt := 27) hx hb dX6_catchingTeeth_22 (by decide) (fun c_11 => ?_) (fun c_11 => ?_)
        · have fc_11 : v_1.toInt ≠ i.toInt := zf_ne c_11 rfl rfl
          obtain ⟨x_12, ex_12⟩ : ∃ y : Int32, y = v_1 + 1 := ⟨_, rfl⟩
          have qx_12 : x_12.toInt = v_1.toInt + 1 := by rw [ex_12]; exact zf_add rfl (by decide) (by omega) (by omega)
          refine lv_iinc (v := x_12) (lv' := [(2, .int x_12), (3, .int i_4), (0, .ref z0), (1, .int i)]) hx hb dX6_catchingTeeth_27 hl (k := 1) rfl ex_12.symm (by decide) rfl (fun ls hl => ?_)
          obtain ⟨x_13, ex_13⟩ : ∃ y : Int32, y = i_4 + 1 := ⟨_, rfl⟩
          have qx_13 : x_13.toInt = i_4.toInt + 1 := dw_inc ex_13 fc_4
          refine lv_iinc (v := x_13) (lv' := [(3, .int x_13), (2, .int x_12), (0, .ref z0), (1, .int i)]) hx hb dX6_catchingTeeth_30 hl (k := 1) rfl ex_13.symm (by decide) rfl (fun ls hl => ?_)
          refine lv_goto (tgt := 4) hx hb dX6_catchingTeeth_33 (by decide) ?_
          exact ih x_13 x_12 _ (lv_sub hl [0, 1, 2, 3] rfl) ⟨by omega, by omega⟩ (show (x_12 : Int32).toInt = zCn fl fs gp.toInt x_13.toInt.toNat from by (have e7 : ((i_4.toInt.toNat : Nat) : Int) = i_4.toInt := (by omega); rw [show x_13.toInt.toNat = i_4.toInt.toNat + 1 from by omega, zCn_s]; first | (rw [if_pos (by rw [e7]; exact (hsr_6_0.1 (by omega)).2.2)]; omega) | (rw [if_neg (by rw [e7]; exact fun z => hsr_6_0.2 (by omega) ⟨by omega, by omega, z⟩)]; omega))) (show (∀ t : Nat, (t : Int) < x_13.toInt → zCa fl fs gp.toInt (t : Int) → zCn fl fs gp.toInt t ≠ i.toInt) from by (intro t h1 h2; rcases (show (t : Int) < i_4.toInt ∨ (t : Int) = i_4.toInt by omega) with h3 | h3; (exact hvi_4_1 t h3 h2); (have h4 : t = i_4.toInt.toNat := (by omega); first | (rw [h4, ← hvi_4_0]; omega) | (exact absurd ⟨by omega, by omega, by rw [← h3]; exact h2⟩ (hsr_6_0.2 (by omega)))))) (show (x_12 : Int32).toInt ≤ x_13.toInt from by omega) (show x_13.toInt ≤ sz.toInt from by omega) (dw_lo hloi_4 qx_13) (dw_hn hni_4 qx_13)
        · have fc_11 : v_1.toInt = i.toInt := zf_eq c_11 rfl rfl
          refine lv_iload_n hx hb dX6_catchingTeeth_25 rfl (lv_at hl 0 rfl) ?_
          exact W.iret (v := i_4) hx hb hr (fun t ht hW => ⟨i_4, rfl, (show zCat fl fs gp.toInt sz.toInt i.toInt (i_4 : Int32).toInt from by (have e7 : ((i_4.toInt.toNat : Nat) : Int) = i_4.toInt := (by omega); exact Or.inl ⟨i_4.toInt.toNat, by omega, by (rw [e7]; exact (hsr_6_0.1 (by omega)).2.2), by omega, by omega⟩)), ht⟩) (fun q hq => by cases hq) dX6_catchingTeeth_26
set_option maxHeartbeats 4000000 in
set_option maxRecDepth 100000 in
theorem c_F_Zip_stitchesNeeded (l : Launch) (D : va_G) (cI cJ cZ cP cS : ClassId) (po : zPool) (z0 zl zs : Nat) (sz at_ gp : Int32) (fl fs : Nat → Int32) (i : Int32) (hy0 : 4 ≤ sz.toInt) (hy1 : sz.toInt ≤ 40) (hy2 : 0 ≤ at_.toInt) (hy3 : at_.toInt ≤ 40) (hy4 : 1 ≤ gp.toInt) (hy5 : gp.toInt ≤ 9) (hp_fl : zRg fl (0) 1) (hp_fs : zRg fs (0) 9) : Met l yX6_stitchesNeeded wsX6_stitchesNeeded ({ frames := 2, cells := 0, slots := 0, locals := 42 }) (va_Pc [.ref z0, .int i] (zR D (zKT cI cJ cZ cP cS) po [(z0, .inr (6, [.ref zl, .ref zs, .int sz, .int at_, .int gp])), (zl, .inl (cZ, 40, .inl fl)), (zs, .inl (cI, 40, .inl fs))])) (vp_Si (fun r => (zSti fl fs gp.toInt sz.toInt i.toInt r.toInt))) 0 0 (fun _ => False) := by
  refine Met.ofW (cc := cX6_stitchesNeeded) (maxL := 6) (ret := (some .int)) (by decide) rfl ?_
  intro p e s m args below meth c s₁ B hml hv
  obtain ⟨rfl, hP, hK, hN, hZ⟩ := hv
  have hx := B.exec
  have hb := B.bytes
  have hr := B.returns
  have hts := atoms_spec (ws := wsX6_stitchesNeeded) B.pre
  have hown : s.vm.findClass RX6 = some m.cls := findClass_of_methodNamed B.named
  have hlocks := B.notSynchronized
  have hl := lv_entry ([.ref z0, .int i]) (n := 6) (Nat.le_of_ble_eq_true rfl)
  rw [lg_entry_eq]
  generalize (lg_sl ([.ref z0, .int i]) ++ List.replicate (6 - (lg_sl ([.ref z0, .int i])).length) Slot.unset).toArray = ls at hl ⊢
  replace hl : lv_has ls 6 [(0, .ref z0), (1, .int i)] := hl
  refine lv_iconst (v := 0) hx hb dX6_stitchesNeeded_0 (by decide) ?_
  refine lv_istore_n (lv' := [(2, .int 0), (0, .ref z0), (1, .int i)]) hx hb dX6_stitchesNeeded_1 rfl hl (by decide) rfl (fun ls hl => ?_)
  refine lv_iconst (v := 0) hx hb dX6_stitchesNeeded_2 (by decide) ?_
  refine lv_istore_n (lv' := [(3, .int 0), (2, .int 0), (0, .ref z0), (1, .int i)]) hx hb dX6_stitchesNeeded_3 rfl hl (by decide) rfl (fun ls hl => ?_)
  refine lv_iconst (v := 0) hx hb dX6_stitchesNeeded_4 (by decide) ?_
  refine lv_istore (lv' := [(4, .int 0), (3, .int 0), (2, .int 0), (0, .ref z0), (1, .int i)]) hx hb dX6_stitchesNeeded_5 hl (by decide) rfl (fun ls hl => ?_)
  obtain ⟨i_7, hi_7⟩ : ∃ i : Int32, i = 0 := ⟨_, rfl⟩
  replace hl : lv_has ls 6 [(4, .int i_7), (3, .int 0), (2, .int 0), (0, .ref z0), (1, .int i)] := by rw [hi_7]; exact lv_sub hl [0, 1, 2, 3, 4] rfl
  have h1i_7 : i_7.toInt = 0 := by rw [hi_7]; decide
  obtain ⟨nfu, hni_7⟩ : ∃ nq9 : Nat, sz.toInt ≤ i_7.toInt + (nq9 : Int) := ⟨((sz.toInt : Int) - 0).toNat, by omega⟩
  have hloi_7 : 0 ≤ i_7.toInt := by omega
  obtain ⟨v_1, hv_1⟩ : ∃ g : Int32, g = 0 := ⟨_, rfl⟩
  obtain ⟨v_2, hv_2⟩ : ∃ g : Int32, g = 0 := ⟨_, rfl⟩
  replace hl : lv_has ls 6 [(4, .int i_7), (3, .int v_2), (2, .int v_1), (0, .ref z0), (1, .int i)] := by rw [hv_1, hv_2]; exact hl
  have hbv_1 : 0 ≤ v_1.toInt ∧ v_1.toInt ≤ 40 := by rw [hv_1]; exact ⟨by decide, by decide⟩
  have hbv_2 : 0 ≤ v_2.toInt ∧ v_2.toInt ≤ 45 := by rw [hv_2]; exact ⟨by decide, by decide⟩
  have hvi_7_0 : ((v_1 : Int32).toInt, (v_2 : Int32).toInt) = zSg fl fs gp.toInt sz.toInt i_7.toInt.toNat := by
    (try rw [hi_7]); (try rw [hv_1]); (try rw [hv_2]); (rw [(show ((0 : Int32).toInt.toNat) = 0 from by decide)]; show _ = ((0 : Int), (0 : Int)); decide)
  have hvi_7_1 : (∀ t : Nat, (t : Int) < i_7.toInt → zSgA fl fs gp.toInt sz.toInt t → (zSg fl fs gp.toInt sz.toInt t).1 ≠ i.toInt) := by
    (try rw [hi_7]); (try rw [hv_1]); (try rw [hv_2]); (intro t h1 h2; exfalso; have k0 : (0 : Int32).toInt = 0 := (by decide); omega)
  have hvi_7_2 : (v_1 : Int32).toInt ≤ i_7.toInt := by
    (try rw [hi_7]); (try rw [hv_1]); (try rw [hv_2]); first | omega | decide
  have hvi_7_3 : i_7.toInt ≤ sz.toInt := by
    (try rw [hi_7]); (try rw [hv_1]); (try rw [hv_2]); (have k0 : (0 : Int32).toInt = 0 := (by decide); omega)
  clear h1i_7 hi_7 hv_1 hv_2
  revert hni_7
  revert hloi_7
  revert hvi_7_3
  revert hvi_7_2
  revert hvi_7_1
  revert hvi_7_0
  revert hbv_2
  revert hbv_1
  revert hl
  revert ls
  revert v_2
  revert v_1
  revert i_7
  induction nfu with
  | zero =>
    intro i_7 v_1 v_2 ls hl hbv_1 hbv_2 hvi_7_0 hvi_7_1 hvi_7_2 hvi_7_3 hloi_7 hni_7
    have hzi_7 : sz.toInt ≤ i_7.toInt := by omega
    refine lv_iload hx hb dX6_stitchesNeeded_7 (lv_at hl 0 rfl) ?_
    refine lv_aload_n hx hb dX6_stitchesNeeded_9 rfl (lv_at hl 3 rfl) ?_
    refine va_get (D := D) (ci := 6) (v := .int sz) (C := RX6) (T := TX6) (N := 5) hx hb hts hi_X6_stitchesNeeded_6 hown hK hP 0 rfl rfl 2 (by decide) (hts (.fieldLink RX6 19 "TheLiningsInIt$Zip" "size" "I") (List.mem_of_getElem? (i := 1) rfl)) (fun _ h9 => h9) rfl dX6_stitchesNeeded_10 ?_
    refine lv_icmp_ge (tgt := 68) hx hb dX6_stitchesNeeded_13 (by decide) (fun c_3 => ?_) (fun c_3 => ?_)
    · have fc_3 : sz.toInt ≤ i_7.toInt := zf_le c_3 rfl rfl
      refine lv_iload_n hx hb dX6_stitchesNeeded_68 rfl (lv_at hl 4 rfl) ?_
      refine lv_iconst (v := (-1)) hx hb dX6_stitchesNeeded_69 (by decide) ?_
      refine lv_icmp_ne (tgt := 77) hx hb dX6_stitchesNeeded_70 (by decide) (fun c_4 => ?_) (fun c_4 => ?_)
      · have fc_4 : i.toInt ≠ (-1) := zf_ne c_4 rfl (by decide)
        refine lv_iconst (v := (-1)) hx hb dX6_stitchesNeeded_77 (by decide) ?_
        exact W.iret (v := (-1)) hx hb hr (fun t ht hW => ⟨(-1), rfl, (show zSti fl fs gp.toInt sz.toInt i.toInt ((-1) : Int32).toInt from by (have km : ((-1) : Int32).toInt = -1 := (by decide); have h9 : i_7.toInt.toNat = sz.toInt.toNat := (by omega); have z := hvi_7_0; rw [h9] at z; refine Or.inr ⟨fun t h1 h2 => hvi_7_1 t (by omega) h2, ?_⟩; first | (rw [if_pos (by omega), ← z]) | (rw [if_neg (by omega)]; exact km))), ht⟩) (fun q hq => by cases hq) dX6_stitchesNeeded_78
      · have fc_4 : i.toInt = (-1) := zf_eq c_4 rfl (by decide)
        refine lv_iload_n hx hb dX6_stitchesNeeded_73 rfl (lv_at hl 2 rfl) ?_
        refine lv_goto (tgt := 78) hx hb dX6_stitchesNeeded_74 (by decide) ?_
        exact W.iret (v := v_1) hx hb hr (fun t ht hW => ⟨v_1, rfl, (show zSti fl fs gp.toInt sz.toInt i.toInt (v_1 : Int32).toInt from by (have km : ((-1) : Int32).toInt = -1 := (by decide); have h9 : i_7.toInt.toNat = sz.toInt.toNat := (by omega); have z := hvi_7_0; rw [h9] at z; refine Or.inr ⟨fun t h1 h2 => hvi_7_1 t (by omega) h2, ?_⟩; first | (rw [if_pos (by omega), ← z]) | (rw [if_neg (by omega)]; exact km))), ht⟩) (fun q hq => by cases hq) dX6_stitchesNeeded_78
    · exfalso; have fc_3 : i_7.toInt < sz.toInt := zf_nle c_3 rfl rfl; omega
  | succ nfu ih =>
    intro i_7 v_1 v_2 ls hl hbv_1 hbv_2 hvi_7_0 hvi_7_1 hvi_7_2 hvi_7_3 hloi_7 hni_7
    refine lv_iload hx hb dX6_stitchesNeeded_7 (lv_at hl 0 rfl) ?_
    refine lv_aload_n hx hb dX6_stitchesNeeded_9 rfl (lv_at hl 3 rfl) ?_
    refine va_get (D := D) (ci := 6) (v := .int sz) (C := RX6) (T := TX6) (N := 5) hx hb hts hi_X6_stitchesNeeded_6 hown hK hP 0 rfl rfl 2 (by decide) (hts (.fieldLink RX6 19 "TheLiningsInIt$Zip" "size" "I") (List.mem_of_getElem? (i := 1) rfl)) (fun _ h9 => h9) rfl dX6_stitchesNeeded_10 ?_
    refine lv_icmp_ge (tgt := 68) hx hb dX6_stitchesNeeded_13 (by decide) (fun c_5 => ?_) (fun c_5 => ?_)
    · have fc_5 : sz.toInt ≤ i_7.toInt := zf_le c_5 rfl rfl
      refine lv_iload_n hx hb dX6_stitchesNeeded_68 rfl (lv_at hl 4 rfl) ?_
      refine lv_iconst (v := (-1)) hx hb dX6_stitchesNeeded_69 (by decide) ?_
      refine lv_icmp_ne (tgt := 77) hx hb dX6_stitchesNeeded_70 (by decide) (fun c_6 => ?_) (fun c_6 => ?_)
      · have fc_6 : i.toInt ≠ (-1) := zf_ne c_6 rfl (by decide)
        refine lv_iconst (v := (-1)) hx hb dX6_stitchesNeeded_77 (by decide) ?_
        exact W.iret (v := (-1)) hx hb hr (fun t ht hW => ⟨(-1), rfl, (show zSti fl fs gp.toInt sz.toInt i.toInt ((-1) : Int32).toInt from by (have km : ((-1) : Int32).toInt = -1 := (by decide); have h9 : i_7.toInt.toNat = sz.toInt.toNat := (by omega); have z := hvi_7_0; rw [h9] at z; refine Or.inr ⟨fun t h1 h2 => hvi_7_1 t (by omega) h2, ?_⟩; first | (rw [if_pos (by omega), ← z]) | (rw [if_neg (by omega)]; exact km))), ht⟩) (fun q hq => by cases hq) dX6_stitchesNeeded_78
      · have fc_6 : i.toInt = (-1) := zf_eq c_6 rfl (by decide)
        refine lv_iload_n hx hb dX6_stitchesNeeded_73 rfl (lv_at hl 2 rfl) ?_
        refine lv_goto (tgt := 78) hx hb dX6_stitchesNeeded_74 (by decide) ?_
        exact W.iret (v := v_1) hx hb hr (fun t ht hW => ⟨v_1, rfl, (show zSti fl fs gp.toInt sz.toInt i.toInt (v_1 : Int32).toInt from by (have km : ((-1) : Int32).toInt = -1 := (by decide); have h9 : i_7.toInt.toNat = sz.toInt.toNat := (by omega); have z := hvi_7_0; rw [h9] at z; refine Or.inr ⟨fun t h1 h2 => hvi_7_1 t (by omega) h2, ?_⟩; first | (rw [if_pos (by omega), ← z]) | (rw [if_neg (by omega)]; exact km))), ht⟩) (fun q hq => by cases hq) dX6_stitchesNeeded_78
    · have fc_5 : i_7.toInt < sz.toInt := zf_nle c_5 rfl rfl
      refine lv_iload hx hb dX6_stitchesNeeded_16 (lv_at hl 0 rfl) ?_
      refine lv_iload_n hx hb dX6_stitchesNeeded_18 rfl (lv_at hl 1 rfl) ?_
      refine lv_icmp_lt (tgt := 62) hx hb dX6_stitchesNeeded_19 (by decide) (fun c_7 => ?_) (fun c_7 => ?_)
      · have fc_7 : i_7.toInt < v_2.toInt := zf_lt c_7 rfl rfl
        obtain ⟨x_8, ex_8⟩ : ∃ y : Int32, y = i_7 + 1 := ⟨_, rfl⟩
        have qx_8 : x_8.toInt = i_7.toInt + 1 := dw_inc ex_8 fc_7
        refine lv_iinc (v := x_8) (lv' := [(4, .int x_8), (3, .int v_2), (2, .int v_1), (0, .ref z0), (1, .int i)]) hx hb dX6_stitchesNeeded_62 hl (k := 0) rfl ex_8.symm (by decide) rfl (fun ls hl => ?_)
        refine lv_goto (tgt := 7) hx hb dX6_stitchesNeeded_65 (by decide) ?_
        exact ih x_8 v_1 v_2 _ (lv_sub hl [0, 1, 2, 3, 4] rfl) hbv_1 hbv_2 (show ((v_1 : Int32).toInt, (v_2 : Int32).toInt) = zSg fl fs gp.toInt sz.toInt x_8.toInt.toNat from by (have e7 : ((i_7.toInt.toNat : Nat) : Int) = i_7.toInt := (by omega); rw [show x_8.toInt.toNat = i_7.toInt.toNat + 1 from by omega, zSg_s, ← hvi_7_0]; dsimp only; first | (rw [if_neg (by rintro ⟨z, -⟩; omega)]))) (show (∀ t : Nat, (t : Int) < x_8.toInt → zSgA fl fs gp.toInt sz.toInt t → (zSg fl fs gp.toInt sz.toInt t).1 ≠ i.toInt) from by (intro t h1 h2; rcases (show (t : Int) < i_7.toInt ∨ (t : Int) = i_7.toInt by omega) with h3 | h3; (exact hvi_7_1 t h3 h2); (have h4 : t = i_7.toInt.toNat := (by omega); first | (exact absurd (show _ ≤ _ from h2.1) (by rw [h4, ← hvi_7_0]; dsimp only; omega))))) (show (v_1 : Int32).toInt ≤ x_8.toInt from by omega) (show x_8.toInt ≤ sz.toInt from by omega) (dw_lo hloi_7 qx_8) (dw_hn hni_7 qx_8)
      · have fc_7 : v_2.toInt ≤ i_7.toInt := zf_nlt c_7 rfl rfl
        refine lv_aload_n hx hb dX6_stitchesNeeded_22 rfl (lv_at hl 3 rfl) ?_
        refine lv_iload hx hb dX6_stitchesNeeded_23 (lv_at hl 0 rfl) ?_
        refine zc_V (As := [.int i_7]) (rest := []) ⟨hx, hb, hml, hown, hts⟩ (c_F_Zip_catchesAt l D cI cJ cZ cP cS po z0 zl zs (sz) (at_) (gp) fl fs (i_7) hy0 hy1 hy2 hy3 hy4 hy5 hp_fl hp_fs) (cwV 1 hts gX6_stitchesNeeded_X6_catchesAt rfl rfl rfl ⟨rfl, dh_X6_catchesAt⟩ ⟨Nat.le_of_ble_eq_true rfl, Nat.le_of_ble_eq_true rfl⟩) hK hN hZ hP (hP.sub [0, 1, 2] rfl) (va_recv (q := (RX6, TX6, 5)) hK hP (ci := 6) (q0 := 0) rfl rfl) rfl hl.1 rfl (Nat.le_of_ble_eq_true rfl) dX6_stitchesNeeded_25 ⟨Nat.le_of_ble_eq_true rfl, Nat.le_of_ble_eq_true rfl⟩ (fun r_9 hr_9 => ?_)
        obtain ⟨g_10, g_11, hsr_9_0⟩ := hr_9
        refine lv_if_eq (tgt := 62) hx hb dX6_stitchesNeeded_28 (by decide) (fun c_12 => ?_) (fun c_12 => ?_)
        · have fc_12 : r_9.toInt = 0 := zf_eq c_12 rfl (by decide)
          obtain ⟨x_13, ex_13⟩ : ∃ y : Int32, y = i_7 + 1 := ⟨_, rfl⟩
          have qx_13 : x_13.toInt = i_7.toInt + 1 := dw_inc ex_13 fc_5
          refine lv_iinc (v := x_13) (lv' := [(4, .int x_13), (3, .int v_2), (2, .int v_1), (0, .ref z0), (1, .int i)]) hx hb dX6_stitchesNeeded_62 hl (k := 0) rfl ex_13.symm (by decide) rfl (fun ls hl => ?_)
          refine lv_goto (tgt := 7) hx hb dX6_stitchesNeeded_65 (by decide) ?_
          exact ih x_13 v_1 v_2 _ (lv_sub hl [0, 1, 2, 3, 4] rfl) hbv_1 hbv_2 (show ((v_1 : Int32).toInt, (v_2 : Int32).toInt) = zSg fl fs gp.toInt sz.toInt x_13.toInt.toNat from by (have e7 : ((i_7.toInt.toNat : Nat) : Int) = i_7.toInt := (by omega); rw [show x_13.toInt.toNat = i_7.toInt.toNat + 1 from by omega, zSg_s, ← hvi_7_0]; dsimp only; first | (rw [if_pos ⟨by omega, by (rw [e7]; exact (hsr_9_0.1 (by omega)).2.2)⟩]; refine Prod.ext ?_ ?_ <;> dsimp only <;> omega) | (rw [if_neg (by rintro ⟨-, z⟩; rw [e7] at z; exact hsr_9_0.2 (by omega) ⟨by omega, by omega, z⟩)]))) (show (∀ t : Nat, (t : Int) < x_13.toInt → zSgA fl fs gp.toInt sz.toInt t → (zSg fl fs gp.toInt sz.toInt t).1 ≠ i.toInt) from by (intro t h1 h2; rcases (show (t : Int) < i_7.toInt ∨ (t : Int) = i_7.toInt by omega) with h3 | h3; (exact hvi_7_1 t h3 h2); (have h4 : t = i_7.toInt.toNat := (by omega); first | (rw [h4, ← hvi_7_0]; dsimp only; omega) | (exact absurd ⟨by omega, by omega, by rw [← h3]; exact h2.2⟩ (hsr_9_0.2 (by omega)))))) (show (v_1 : Int32).toInt ≤ x_13.toInt from by omega) (show x_13.toInt ≤ sz.toInt from by omega) (dw_lo hloi_7 qx_13) (dw_hn hni_7 qx_13)
        · have fc_12 : r_9.toInt ≠ 0 := zf_ne c_12 rfl (by decide)
          refine lv_iload hx hb dX6_stitchesNeeded_31 (lv_at hl 0 rfl) ?_
          refine lv_iconst (v := 2) hx hb dX6_stitchesNeeded_33 (by decide) ?_
          refine lv_iadd hx hb dX6_stitchesNeeded_34 ?_
          refine lv_topi (fun x_14 ex_14 => ?_)
          have qx_14 : x_14.toInt = i_7.toInt + 2 := by rw [ex_14]; exact zf_add rfl (by decide) (by omega) (by omega)
          refine lv_aload_n hx hb dX6_stitchesNeeded_35 rfl (lv_at hl 3 rfl) ?_
          refine va_get (D := D) (ci := 6) (v := .int sz) (C := RX6) (T := TX6) (N := 5) hx hb hts hi_X6_stitchesNeeded_6 hown hK hP 0 rfl rfl 2 (by decide) (hts (.fieldLink RX6 19 "TheLiningsInIt$Zip" "size" "I") (List.mem_of_getElem? (i := 1) rfl)) (fun _ h9 => h9) rfl dX6_stitchesNeeded_36 ?_
          refine lv_iconst (v := 1) hx hb dX6_stitchesNeeded_39 (by decide) ?_
          refine lv_isub hx hb dX6_stitchesNeeded_40 ?_
          refine lv_topi (fun x_15 ex_15 => ?_)
          have qx_15 : x_15.toInt = sz.toInt - 1 := by rw [ex_15]; exact zf_sub rfl (by decide) (by omega) (by omega)
          refine va_mmin hx hb (hml.trans hl.1.symm) hown (hts (.methodLink RX6 55 Lib.Math.min.name) (List.mem_of_getElem? (i := 2) rfl)) (hts _ (List.mem_of_getElem? (i := 3) rfl)) (hts _ (List.mem_of_getElem? (i := 4) rfl)) (hts _ (List.mem_of_getElem? (i := 5) rfl)) (Nat.le_of_ble_eq_true rfl) (Nat.le_of_ble_eq_true rfl) (Nat.le_of_ble_eq_true rfl) (Nat.le_of_ble_eq_true rfl) dX6_stitchesNeeded_41 ?_
          refine lv_topi (fun x_16 ex_16 => ?_)
          have qx_16 := zf_min ex_16 (x1 := x_14.toInt) (y1 := x_15.toInt) rfl rfl
          refine lv_istore (lv' := [(5, .int x_16), (4, .int i_7), (3, .int v_2), (2, .int v_1), (0, .ref z0), (1, .int i)]) hx hb dX6_stitchesNeeded_44 hl (by decide) rfl (fun ls hl => ?_)
          refine lv_iload_n hx hb dX6_stitchesNeeded_46 rfl (lv_at hl 3 rfl) ?_
          refine lv_iload_n hx hb dX6_stitchesNeeded_47 rfl (lv_at hl 5 rfl) ?_
          refine lv_icmp_ne (tgt := 54) hx hb dX6_stitchesNeeded_48 (by decide) (fun c_17 => ?_) (fun c_17 => ?_)
          · have fc_17 : v_1.toInt ≠ i.toInt := zf_ne c_17 rfl rfl
            obtain ⟨x_18, ex_18⟩ : ∃ y : Int32, y = v_1 + 1 := ⟨_, rfl⟩
            have qx_18 : x_18.toInt = v_1.toInt + 1 := by rw [ex_18]; exact zf_add rfl (by decide) (by omega) (by omega)
            refine lv_iinc (v := x_18) (lv' := [(2, .int x_18), (5, .int x_16), (4, .int i_7), (3, .int v_2), (0, .ref z0), (1, .int i)]) hx hb dX6_stitchesNeeded_54 hl (k := 3) rfl ex_18.symm (by decide) rfl (fun ls hl => ?_)
            refine lv_iload hx hb dX6_stitchesNeeded_57 (lv_at hl 1 rfl) ?_
            refine lv_iconst (v := 3) hx hb dX6_stitchesNeeded_59 (by decide) ?_
            refine lv_iadd hx hb dX6_stitchesNeeded_60 ?_
            refine lv_topi (fun x_19 ex_19 => ?_)
            have qx_19 : x_19.toInt = x_16.toInt + 3 := by rw [ex_19]; exact zf_add rfl (by decide) (by omega) (by omega)
            refine lv_istore_n (lv' := [(3, .int x_19), (2, .int x_18), (5, .int x_16), (4, .int i_7), (0, .ref z0), (1, .int i)]) hx hb dX6_stitchesNeeded_61 rfl hl (by decide) rfl (fun ls hl => ?_)
            obtain ⟨x_20, ex_20⟩ : ∃ y : Int32, y = i_7 + 1 := ⟨_, rfl⟩
            have qx_20 : x_20.toInt = i_7.toInt + 1 := dw_inc ex_20 fc_5
            refine lv_iinc (v := x_20) (lv' := [(4, .int x_20), (3, .int x_19), (2, .int x_18), (5, .int x_16), (0, .ref z0), (1, .int i)]) hx hb dX6_stitchesNeeded_62 hl (k := 3) rfl ex_20.symm (by decide) rfl (fun ls hl => ?_)
            refine lv_goto (tgt := 7) hx hb dX6_stitchesNeeded_65 (by decide) ?_
            exact ih x_20 x_18 x_19 _ (lv_sub hl [0, 1, 2, 4, 5] rfl) ⟨by omega, by omega⟩ ⟨by omega, by omega⟩ (show ((x_18 : Int32).toInt, (x_19 : Int32).toInt) = zSg fl fs gp.toInt sz.toInt x_20.toInt.toNat from by (have e7 : ((i_7.toInt.toNat : Nat) : Int) = i_7.toInt := (by omega); rw [show x_20.toInt.toNat = i_7.toInt.toNat + 1 from by omega, zSg_s, ← hvi_7_0]; dsimp only; first | (rw [if_pos ⟨by omega, by (rw [e7]; exact (hsr_9_0.1 (by omega)).2.2)⟩]; refine Prod.ext ?_ ?_ <;> dsimp only <;> omega) | (rw [if_neg (by rintro ⟨-, z⟩; rw [e7] at z; exact hsr_9_0.2 (by omega) ⟨by omega, by omega, z⟩)]))) (show (∀ t : Nat, (t : Int) < x_20.toInt → zSgA fl fs gp.toInt sz.toInt t → (zSg fl fs gp.toInt sz.toInt t).1 ≠ i.toInt) from by (intro t h1 h2; rcases (show (t : Int) < i_7.toInt ∨ (t : Int) = i_7.toInt by omega) with h3 | h3; (exact hvi_7_1 t h3 h2); (have h4 : t = i_7.toInt.toNat := (by omega); first | (rw [h4, ← hvi_7_0]; dsimp only; omega) | (exact absurd ⟨by omega, by omega, by rw [← h3]; exact h2.2⟩ (hsr_9_0.2 (by omega)))))) (show (x_18 : Int32).toInt ≤ x_20.toInt from by omega) (show x_20.toInt ≤ sz.toInt from by omega) (dw_lo hloi_7 qx_20) (dw_hn hni_7 qx_20)
          · have fc_17 : v_1.toInt = i.toInt := zf_eq c_17 rfl rfl
            refine lv_iload hx hb dX6_stitchesNeeded_51 (lv_at hl 0 rfl) ?_
            exact W.iret (v := x_16) hx hb hr (fun t ht hW => ⟨x_16, rfl, (show zSti fl fs gp.toInt sz.toInt i.toInt (x_16 : Int32).toInt from by (have e7 : ((i_7.toInt.toNat : Nat) : Int) = i_7.toInt := (by omega); refine Or.inl ⟨i_7.toInt.toNat, by omega, ⟨by (rw [← hvi_7_0]; dsimp only; omega), by (rw [e7]; exact (hsr_9_0.1 (by omega)).2.2)⟩, by (rw [← hvi_7_0]; dsimp only; omega), by omega⟩)), ht⟩) (fun q hq => by cases hq) dX6_stitchesNeeded_53
end
section
set_option maxHeartbeats 4000000 in
set_option maxRecDepth 100000 in
theorem c_F_Zip_takeSlack (l : Launch) (D : va_G) (cI cJ cZ cP cS : ClassId) (po : zPool) (z0 zl zs : Nat) (sz at_ gp : Int32) (fl fs : Nat → Int32) (md : Int32) (hy0 : 4 ≤ sz.toInt) (hy1 : sz.toInt ≤ 40) (hy2 : 0 ≤ at_.toInt) (hy3 : at_.toInt ≤ 40) (hy4 : 1 ≤ gp.toInt) (hy5 : gp.toInt ≤ 9) (hy6 : 0 ≤ md.toInt) (hy7 : md.toInt ≤ 39) (hp_fs : zRg fs (0) 9) (hpz : Nat) : Met l yX6_takeSlack wsX6_takeSlack ({ frames := 1, cells := 0, slots := 0, locals := 21 }) (va_Pc [.ref z0, .int md] (zW D (zKT cI cJ cZ cP cS) po [(z0, .inr (6, [.ref zl, .ref zs, .int sz, .int at_, .int gp])), (zs, .inl (cI, 40, .inl fs))] hpz)) (va_Qi (fun (r : Int32) (fs2 : (Nat → Int32)) => zRg fs2 (0) 9 ∧ (r.toInt = zTk fs sz.toInt (md.toInt - 2) 5) ∧ ((∀ j : Nat, fs2 j = (if md.toInt - 2 ≤ (j : Int) ∧ (j : Int) ≤ md.toInt + 2 ∧ (j : Int) < sz.toInt then 0 else fs j))) ∧ (True)) (zB D [(z0, .inr (6, [.ref zl, .ref zs, .int sz, .int at_, .int gp])), (zs, .inl (cI, 40, .inl fs))] hpz (fun (fs2 : Nat → Int32) => [(z0, .inr (6, [.ref zl, .ref zs, .int sz, .int at_, .int gp])), (zs, .inl (cI, 40, .inl fs2))])) (va_A [(z0, .inr (6, [.ref zl, .ref zs, .int sz, .int at_, .int gp])), (zs, .inl (cI, 40, .inl fs))] hpz)) 0 0 (va_A [(z0, .inr (6, [.ref zl, .ref zs, .int sz, .int at_, .int gp])), (zs, .inl (cI, 40, .inl fs))] hpz) := by
  refine Met.ofW (cc := cX6_takeSlack) (maxL := 4) (ret := (some .int)) (by decide) rfl ?_
  intro p e s m args below meth c s₁ B hml hv
  obtain ⟨rfl, hsz, hP, hK, hD0, hN, hZ⟩ := hv
  have hx := B.exec
  have hb := B.bytes
  have hr := B.returns
  have hts := atoms_spec (ws := wsX6_takeSlack) B.pre
  have hown : s.vm.findClass RX6 = some m.cls := findClass_of_methodNamed B.named
  have hlocks := B.notSynchronized
  subst hsz
  have hD := hD0.self (sz := s.heap.size)
  have hA := zA_of hD
  have hl := lv_entry ([.ref z0, .int md]) (n := 4) (Nat.le_of_ble_eq_true rfl)
  rw [lg_entry_eq]
  generalize (lg_sl ([.ref z0, .int md]) ++ List.replicate (4 - (lg_sl ([.ref z0, .int md])).length) Slot.unset).toArray = ls at hl ⊢
  replace hl : lv_has ls 4 [(0, .ref z0), (1, .int md)] := hl
  refine zw_begin hP hD (fun H locs hP1 hS => ?_)
  clear hP
  have hP := hP1
  clear hP1
  refine lv_iconst (v := 0) hx hb dX6_takeSlack_0 (by decide) ?_
  refine lv_istore_n (lv' := [(2, .int 0), (0, .ref z0), (1, .int md)]) hx hb dX6_takeSlack_1 rfl hl (by decide) rfl (fun ls hl => ?_)
  refine lv_iload_n hx hb dX6_takeSlack_2 rfl (lv_at hl 2 rfl) ?_
  refine lv_iconst (v := 2) hx hb dX6_takeSlack_3 (by decide) ?_
  refine lv_isub hx hb dX6_takeSlack_4 ?_
  refine lv_topi (fun x_1 ex_1 => ?_)
  have qx_1 : x_1.toInt = md.toInt - 2 := by rw [ex_1]; exact zf_sub rfl (by decide) (by omega) (by omega)
  refine lv_istore_n (lv' := [(3, .int x_1), (2, .int 0), (0, .ref z0), (1, .int md)]) hx hb dX6_takeSlack_5 rfl hl (by decide) rfl (fun ls hl => ?_)
  obtain ⟨i_6, hi_6⟩ : ∃ i : Int32, i = x_1 := ⟨_, rfl⟩
  replace hl : lv_has ls 4 [(3, .int i_6), (2, .int 0), (0, .ref z0), (1, .int md)] := by rw [hi_6]; exact lv_sub hl [0, 1, 2, 3] rfl
  have h1i_6 : i_6.toInt = x_1.toInt := by rw [hi_6]
  obtain ⟨nfu, hni_6⟩ : ∃ nq9 : Nat, md.toInt + 3 ≤ i_6.toInt + (nq9 : Int) := ⟨((md.toInt + 3 : Int) - x_1.toInt).toNat, by omega⟩
  have hloi_6 : -2 ≤ i_6.toInt := by omega
  obtain ⟨g_2, hg_2⟩ : ∃ g : Nat → Int32, g = fs := ⟨_, rfl⟩
  have hpg_2 : zRg g_2 (0) 9 := by rw [hg_2]; exact hp_fs
  replace hP : va_P D vwCl [(z0, .inr (6, [.ref zl, .ref zs, .int sz, .int at_, .int gp])), (zs, .inl (cI, 40, .inl g_2))] H := by rw [hg_2]; exact hP
  replace hD : va_D (va_A [(z0, .inr (6, [.ref zl, .ref zs, .int sz, .int at_, .int gp])), (zs, .inl (cI, 40, .inl fs))] s.heap.size) [(z0, .inr (6, [.ref zl, .ref zs, .int sz, .int at_, .int gp])), (zs, .inl (cI, 40, .inl g_2))] := by rw [hg_2]; exact hD
  obtain ⟨v_3, hv_3⟩ : ∃ g : Int32, g = 0 := ⟨_, rfl⟩
  replace hl : lv_has ls 4 [(3, .int i_6), (2, .int v_3), (0, .ref z0), (1, .int md)] := by rw [hv_3]; exact hl
  have hbv_3 : 0 ≤ v_3.toInt ∧ v_3.toInt ≤ 45 := by rw [hv_3]; exact ⟨by decide, by decide⟩
  have hvi_6_0 : (v_3 : Int32).toInt = zTk fs sz.toInt (md.toInt - 2) (i_6.toInt - (md.toInt - 2)).toNat := by
    (try rw [hi_6]); (try rw [hg_2]); (try rw [hv_3]); (exact Eq.trans (show (0 : Int32).toInt = zTk fs sz.toInt (md.toInt - 2) 0 from (by decide : (0 : Int32).toInt = 0)) (congrArg _ (by omega)))
  have hvi_6_1 : (∀ j : Nat, g_2 j = (if md.toInt - 2 ≤ (j : Int) ∧ (j : Int) < i_6.toInt ∧ (j : Int) < sz.toInt then 0 else fs j)) := by
    (try rw [hi_6]); (try rw [hg_2]); (try rw [hv_3]); (intro j; rw [if_neg (by omega)])
  have hvi_6_2 : md.toInt - 2 ≤ i_6.toInt ∧ i_6.toInt ≤ md.toInt + 3 ∧ (v_3 : Int32).toInt ≤ 9 * (i_6.toInt - (md.toInt - 2)) := by
    (try rw [hi_6]); (try rw [hg_2]); (try rw [hv_3]); (have k0 : (0 : Int32).toInt = 0 := (by decide); omega)
  clear h1i_6 hi_6 hg_2 hv_3
  skip
  revert hni_6
  revert hloi_6
  revert hvi_6_2
  revert hvi_6_1
  revert hvi_6_0
  revert hbv_3
  revert hpg_2
  revert hl
  revert hS
  revert hD
  revert hP
  revert ls
  revert locs
  revert H
  revert g_2
  revert v_3
  revert i_6
  induction nfu with
  | zero =>
    intro i_6 v_3 g_2 H locs ls hP hD hS hl hpg_2 hbv_3 hvi_6_0 hvi_6_1 hvi_6_2 hloi_6 hni_6
    have hzi_6 : md.toInt + 3 ≤ i_6.toInt := by omega
    refine lv_iload_n hx hb dX6_takeSlack_6 rfl (lv_at hl 0 rfl) ?_
    refine lv_iload_n hx hb dX6_takeSlack_7 rfl (lv_at hl 3 rfl) ?_
    refine lv_iconst (v := 2) hx hb dX6_takeSlack_8 (by decide) ?_
    refine lv_iadd hx hb dX6_takeSlack_9 ?_
    refine lv_topi (fun x_4 ex_4 => ?_)
    have qx_4 : x_4.toInt = md.toInt + 2 := by rw [ex_4]; exact zf_add rfl (by decide) (by omega) (by omega)
    refine lv_icmp_gt (tgt := 43) hx hb dX6_takeSlack_10 (by decide) (fun c_5 => ?_) (fun c_5 => ?_)
    · have fc_5 : x_4.toInt < i_6.toInt := zf_lt c_5 rfl rfl
      refine lv_iload_n hx hb dX6_takeSlack_43 rfl (lv_at hl 1 rfl) ?_
      exact W.iret (v := v_3) hx hb hr (fun t ht hW => ⟨⟨v_3, g_2, rfl, ⟨hpg_2, (show (v_3 : Int32).toInt = zTk fs sz.toInt (md.toInt - 2) 5 from by (have h9 : (i_6.toInt - (md.toInt - 2)).toNat = 5 := (by omega); have z := hvi_6_0; rw [h9] at z; exact z)), (show (∀ j : Nat, g_2 j = (if md.toInt - 2 ≤ (j : Int) ∧ (j : Int) ≤ md.toInt + 2 ∧ (j : Int) < sz.toInt then 0 else fs j)) from by (intro j; have z := hvi_6_1 j; rw [z]; by_cases c : md.toInt - 2 ≤ (j : Int) ∧ (j : Int) < i_6.toInt ∧ (j : Int) < sz.toInt; (rw [if_pos c, if_pos (by omega)]); (rw [if_neg c, if_neg (by omega)]))), trivial⟩, zRet ht hP hD [0, 1] (by decide) rfl⟩, hS.F ht⟩) hS.2.2 dX6_takeSlack_44
    · have fc_5 : i_6.toInt ≤ x_4.toInt := zf_nlt c_5 rfl rfl
      refine lv_aload_n hx hb dX6_takeSlack_13 rfl (lv_at hl 2 rfl) ?_
      refine lv_iload_n hx hb dX6_takeSlack_14 rfl (lv_at hl 0 rfl) ?_
      refine zc_V (As := [.int i_6]) (rest := []) ⟨hx, hb, hml, hown, hts⟩ (c_Zip_has l D cI cJ cZ cP cS po z0 zl zs (sz) (at_) (gp) (i_6) ) (cwV 1 hts gX6_takeSlack_X6_has rfl rfl rfl ⟨rfl, dh_X6_has⟩ ⟨Nat.le_of_ble_eq_true rfl, Nat.le_of_ble_eq_true rfl⟩) hK hN (hZ.kept hS) hP (hP.sub [0] rfl) (va_recv (q := (RX6, TX6, 5)) hK hP (ci := 6) (q0 := 0) rfl rfl) rfl hl.1 rfl (Nat.le_of_ble_eq_true rfl) dX6_takeSlack_15 ⟨Nat.le_of_ble_eq_true rfl, Nat.le_of_ble_eq_true rfl⟩ (fun r_6 hr_6 => ?_)
      rcases hr_6 with ⟨rfl, g_7⟩ | ⟨rfl, g_8, g_9⟩ | ⟨rfl, g_10, g_11⟩
      · refine lv_if_eq (tgt := 37) hx hb dX6_takeSlack_18 (by decide) (fun c_12 => ?_) (fun c_12 => ?_)
        · obtain ⟨x_13, ex_13⟩ : ∃ y : Int32, y = i_6 + 1 := ⟨_, rfl⟩
          have rax_13 := zf_rng i_6
          have qx_13 : x_13.toInt = i_6.toInt + 1 := by rw [ex_13]; exact zf_add rfl (by decide) (by omega) (by omega)
          refine lv_iinc (v := x_13) (lv' := [(3, .int x_13), (2, .int v_3), (0, .ref z0), (1, .int md)]) hx hb dX6_takeSlack_37 hl (k := 0) rfl ex_13.symm (by decide) rfl (fun ls hl => ?_)
          refine lv_goto (tgt := 6) hx hb dX6_takeSlack_40 (by decide) ?_
          exfalso; omega
        · exact absurd c_12 (by decide)
      · refine lv_if_eq (tgt := 37) hx hb dX6_takeSlack_18 (by decide) (fun c_14 => ?_) (fun c_14 => ?_)
        · obtain ⟨x_15, ex_15⟩ : ∃ y : Int32, y = i_6 + 1 := ⟨_, rfl⟩
          have qx_15 : x_15.toInt = i_6.toInt + 1 := by rw [ex_15]; exact zf_add rfl (by decide) (by omega) (by omega)
          refine lv_iinc (v := x_15) (lv' := [(3, .int x_15), (2, .int v_3), (0, .ref z0), (1, .int md)]) hx hb dX6_takeSlack_37 hl (k := 0) rfl ex_15.symm (by decide) rfl (fun ls hl => ?_)
          refine lv_goto (tgt := 6) hx hb dX6_takeSlack_40 (by decide) ?_
          exfalso; omega
        · exact absurd c_14 (by decide)
      · refine lv_if_eq (tgt := 37) hx hb dX6_takeSlack_18 (by decide) (fun c_16 => ?_) (fun c_16 => ?_)
        · exact absurd c_16 (by decide)
        · refine lv_iload_n hx hb dX6_takeSlack_21 rfl (lv_at hl 1 rfl) ?_
          refine lv_aload_n hx hb dX6_takeSlack_22 rfl (lv_at hl 2 rfl) ?_
          refine va_get (D := D) (ci := 6) (v := .ref zs) (C := RX6) (T := TX6) (N := 5) hx hb hts hi_X6_takeSlack_6 hown hK hP 0 rfl rfl 1 (by decide) (hts (.fieldLink RX6 15 "TheLiningsInIt$Zip" "slacks" "[I") (List.mem_of_getElem? (i := 1) rfl)) (fun _ h9 => h9) rfl dX6_takeSlack_23 ?_
          refine lv_iload_n hx hb dX6_takeSlack_26 rfl (lv_at hl 0 rfl) ?_
          refine va_iald hx hb hK hP 1 0 rfl rfl (zf_in (by omega) (by omega)) dX6_takeSlack_27 ?_
          refine lv_topi (fun x_17 ex_17 => ?_)
          have bx_17 : 0 ≤ x_17.toInt ∧ x_17.toInt ≤ 9 := by rw [ex_17]; exact hpg_2 _
          refine lv_iadd hx hb dX6_takeSlack_28 ?_
          refine lv_topi (fun x_18 ex_18 => ?_)
          have qx_18 : x_18.toInt = v_3.toInt + x_17.toInt := by rw [ex_18]; exact zf_add rfl rfl (by omega) (by omega)
          refine lv_istore_n (lv' := [(2, .int x_18), (3, .int i_6), (0, .ref z0), (1, .int md)]) hx hb dX6_takeSlack_29 rfl hl (by decide) rfl (fun ls hl => ?_)
          refine lv_aload_n hx hb dX6_takeSlack_30 rfl (lv_at hl 2 rfl) ?_
          refine va_get (D := D) (ci := 6) (v := .ref zs) (C := RX6) (T := TX6) (N := 5) hx hb hts hi_X6_takeSlack_6 hown hK hP 0 rfl rfl 1 (by decide) (hts (.fieldLink RX6 15 "TheLiningsInIt$Zip" "slacks" "[I") (List.mem_of_getElem? (i := 1) rfl)) (fun _ h9 => h9) rfl dX6_takeSlack_31 ?_
          refine lv_iload_n hx hb dX6_takeSlack_34 rfl (lv_at hl 1 rfl) ?_
          refine lv_iconst (v := 0) hx hb dX6_takeSlack_35 (by decide) ?_
          refine va_iast hx hb hK hP hD hS 1 0 rfl rfl (zf_in (by omega) (by omega)) dX6_takeSlack_36 (fun H locs hP hD hS => ?_)
          have hpg_19 : zRg (upd g_2 i_6.toNatClampNeg 0) (0) 9 := zRg_upd hpg_2 (by decide) (by decide)
          obtain ⟨g_19, hg_19⟩ : ∃ g : Nat → Int32, g = upd g_2 i_6.toNatClampNeg 0 := ⟨_, rfl⟩
          rw [← hg_19] at hP hD hpg_19
          have h9R := zRe (ws' := [(z0, .inr (6, [.ref zl, .ref zs, .int sz, .int at_, .int gp])), (zs, .inl (cI, 40, .inl g_19))]) hP hD rfl
          clear hP hD
          obtain ⟨hP, hD⟩ := h9R
          obtain ⟨x_20, ex_20⟩ : ∃ y : Int32, y = i_6 + 1 := ⟨_, rfl⟩
          have qx_20 : x_20.toInt = i_6.toInt + 1 := by rw [ex_20]; exact zf_add rfl (by decide) (by omega) (by omega)
          refine lv_iinc (v := x_20) (lv' := [(3, .int x_20), (2, .int x_18), (0, .ref z0), (1, .int md)]) hx hb dX6_takeSlack_37 hl (k := 1) rfl ex_20.symm (by decide) rfl (fun ls hl => ?_)
          refine lv_goto (tgt := 6) hx hb dX6_takeSlack_40 (by decide) ?_
          exfalso; omega
  | succ nfu ih =>
    intro i_6 v_3 g_2 H locs ls hP hD hS hl hpg_2 hbv_3 hvi_6_0 hvi_6_1 hvi_6_2 hloi_6 hni_6
    refine lv_iload_n hx hb dX6_takeSlack_6 rfl (lv_at hl 0 rfl) ?_
    refine lv_iload_n hx hb dX6_takeSlack_7 rfl (lv_at hl 3 rfl) ?_
    refine lv_iconst (v := 2) hx hb dX6_takeSlack_8 (by decide) ?_
    refine lv_iadd hx hb dX6_takeSlack_9 ?_
    refine lv_topi (fun x_21 ex_21 => ?_)
    have qx_21 : x_21.toInt = md.toInt + 2 := by rw [ex_21]; exact zf_add rfl (by decide) (by omega) (by omega)
    refine lv_icmp_gt (tgt := 43) hx hb dX6_takeSlack_10 (by decide) (fun c_22 => ?_) (fun c_22 => ?_)
    · have fc_22 : x_21.toInt < i_6.toInt := zf_lt c_22 rfl rfl
      refine lv_iload_n hx hb dX6_takeSlack_43 rfl (lv_at hl 1 rfl) ?_
      exact W.iret (v := v_3) hx hb hr (fun t ht hW => ⟨⟨v_3, g_2, rfl, ⟨hpg_2, (show (v_3 : Int32).toInt = zTk fs sz.toInt (md.toInt - 2) 5 from by (have h9 : (i_6.toInt - (md.toInt - 2)).toNat = 5 := (by omega); have z := hvi_6_0; rw [h9] at z; exact z)), (show (∀ j : Nat, g_2 j = (if md.toInt - 2 ≤ (j : Int) ∧ (j : Int) ≤ md.toInt + 2 ∧ (j : Int) < sz.toInt then 0 else fs j)) from by (intro j; have z := hvi_6_1 j; rw [z]; by_cases c : md.toInt - 2 ≤ (j : Int) ∧ (j : Int) < i_6.toInt ∧ (j : Int) < sz.toInt; (rw [if_pos c, if_pos (by omega)]); (rw [if_neg c, if_neg (by omega)]))), trivial⟩, zRet ht hP hD [0, 1] (by decide) rfl⟩, hS.F ht⟩) hS.2.2 dX6_takeSlack_44
    · have fc_22 : i_6.toInt ≤ x_21.toInt := zf_nlt c_22 rfl rfl
      refine lv_aload_n hx hb dX6_takeSlack_13 rfl (lv_at hl 2 rfl) ?_
      refine lv_iload_n hx hb dX6_takeSlack_14 rfl (lv_at hl 0 rfl) ?_
      refine zc_V (As := [.int i_6]) (rest := []) ⟨hx, hb, hml, hown, hts⟩ (c_Zip_has l D cI cJ cZ cP cS po z0 zl zs (sz) (at_) (gp) (i_6) ) (cwV 1 hts gX6_takeSlack_X6_has rfl rfl rfl ⟨rfl, dh_X6_has⟩ ⟨Nat.le_of_ble_eq_true rfl, Nat.le_of_ble_eq_true rfl⟩) hK hN (hZ.kept hS) hP (hP.sub [0] rfl) (va_recv (q := (RX6, TX6, 5)) hK hP (ci := 6) (q0 := 0) rfl rfl) rfl hl.1 rfl (Nat.le_of_ble_eq_true rfl) dX6_takeSlack_15 ⟨Nat.le_of_ble_eq_true rfl, Nat.le_of_ble_eq_true rfl⟩ (fun r_23 hr_23 => ?_)
      rcases hr_23 with ⟨rfl, g_24⟩ | ⟨rfl, g_25, g_26⟩ | ⟨rfl, g_27, g_28⟩
      · refine lv_if_eq (tgt := 37) hx hb dX6_takeSlack_18 (by decide) (fun c_29 => ?_) (fun c_29 => ?_)
        · obtain ⟨x_30, ex_30⟩ : ∃ y : Int32, y = i_6 + 1 := ⟨_, rfl⟩
          have qx_30 : x_30.toInt = i_6.toInt + 1 := by rw [ex_30]; exact zf_add rfl (by decide) (by omega) (by omega)
          refine lv_iinc (v := x_30) (lv' := [(3, .int x_30), (2, .int v_3), (0, .ref z0), (1, .int md)]) hx hb dX6_takeSlack_37 hl (k := 0) rfl ex_30.symm (by decide) rfl (fun ls hl => ?_)
          refine lv_goto (tgt := 6) hx hb dX6_takeSlack_40 (by decide) ?_
          exact ih x_30 v_3 (g_2) _ _ _ (hP.sub [0, 1] rfl) (hD.sub [0, 1] (by decide) rfl) hS (lv_sub hl [0, 1, 2, 3] rfl) hpg_2 hbv_3 (show (v_3 : Int32).toInt = zTk fs sz.toInt (md.toInt - 2) (x_30.toInt - (md.toInt - 2)).toNat from by (rw [show (x_30.toInt - (md.toInt - 2)).toNat = (i_6.toInt - (md.toInt - 2)).toNat + 1 from by omega, zTk_s, show md.toInt - 2 + (((i_6.toInt - (md.toInt - 2)).toNat : Nat) : Int) = i_6.toInt from by omega]; rw [if_neg (by omega)]; omega)) (show (∀ j : Nat, g_2 j = (if md.toInt - 2 ≤ (j : Int) ∧ (j : Int) < x_30.toInt ∧ (j : Int) < sz.toInt then 0 else fs j)) from by (intro j; have z := hvi_6_1 j; rw [z]; by_cases c : md.toInt - 2 ≤ (j : Int) ∧ (j : Int) < i_6.toInt ∧ (j : Int) < sz.toInt; (rw [if_pos c, if_pos (by omega)]); (rw [if_neg c, if_neg (by omega)]))) (show md.toInt - 2 ≤ x_30.toInt ∧ x_30.toInt ≤ md.toInt + 3 ∧ (v_3 : Int32).toInt ≤ 9 * (x_30.toInt - (md.toInt - 2)) from by exact ⟨by omega, by omega, by omega⟩) (dw_lo hloi_6 qx_30) (dw_hn hni_6 qx_30)
        · exact absurd c_29 (by decide)
      · refine lv_if_eq (tgt := 37) hx hb dX6_takeSlack_18 (by decide) (fun c_31 => ?_) (fun c_31 => ?_)
        · obtain ⟨x_32, ex_32⟩ : ∃ y : Int32, y = i_6 + 1 := ⟨_, rfl⟩
          have qx_32 : x_32.toInt = i_6.toInt + 1 := by rw [ex_32]; exact zf_add rfl (by decide) (by omega) (by omega)
          refine lv_iinc (v := x_32) (lv' := [(3, .int x_32), (2, .int v_3), (0, .ref z0), (1, .int md)]) hx hb dX6_takeSlack_37 hl (k := 0) rfl ex_32.symm (by decide) rfl (fun ls hl => ?_)
          refine lv_goto (tgt := 6) hx hb dX6_takeSlack_40 (by decide) ?_
          exact ih x_32 v_3 (g_2) _ _ _ (hP.sub [0, 1] rfl) (hD.sub [0, 1] (by decide) rfl) hS (lv_sub hl [0, 1, 2, 3] rfl) hpg_2 hbv_3 (show (v_3 : Int32).toInt = zTk fs sz.toInt (md.toInt - 2) (x_32.toInt - (md.toInt - 2)).toNat from by (rw [show (x_32.toInt - (md.toInt - 2)).toNat = (i_6.toInt - (md.toInt - 2)).toNat + 1 from by omega, zTk_s, show md.toInt - 2 + (((i_6.toInt - (md.toInt - 2)).toNat : Nat) : Int) = i_6.toInt from by omega]; rw [if_neg (by omega)]; omega)) (show (∀ j : Nat, g_2 j = (if md.toInt - 2 ≤ (j : Int) ∧ (j : Int) < x_32.toInt ∧ (j : Int) < sz.toInt then 0 else fs j)) from by (intro j; have z := hvi_6_1 j; rw [z]; by_cases c : md.toInt - 2 ≤ (j : Int) ∧ (j : Int) < i_6.toInt ∧ (j : Int) < sz.toInt; (rw [if_pos c, if_pos (by omega)]); (rw [if_neg c, if_neg (by omega)]))) (show md.toInt - 2 ≤ x_32.toInt ∧ x_32.toInt ≤ md.toInt + 3 ∧ (v_3 : Int32).toInt ≤ 9 * (x_32.toInt - (md.toInt - 2)) from by exact ⟨by omega, by omega, by omega⟩) (dw_lo hloi_6 qx_32) (dw_hn hni_6 qx_32)
        · exact absurd c_31 (by decide)
      · refine lv_if_eq (tgt := 37) hx hb dX6_takeSlack_18 (by decide) (fun c_33 => ?_) (fun c_33 => ?_)
        · exact absurd c_33 (by decide)
        · refine lv_iload_n hx hb dX6_takeSlack_21 rfl (lv_at hl 1 rfl) ?_
          refine lv_aload_n hx hb dX6_takeSlack_22 rfl (lv_at hl 2 rfl) ?_
          refine va_get (D := D) (ci := 6) (v := .ref zs) (C := RX6) (T := TX6) (N := 5) hx hb hts hi_X6_takeSlack_6 hown hK hP 0 rfl rfl 1 (by decide) (hts (.fieldLink RX6 15 "TheLiningsInIt$Zip" "slacks" "[I") (List.mem_of_getElem? (i := 1) rfl)) (fun _ h9 => h9) rfl dX6_takeSlack_23 ?_
          refine lv_iload_n hx hb dX6_takeSlack_26 rfl (lv_at hl 0 rfl) ?_
          refine va_iald hx hb hK hP 1 0 rfl rfl (zf_in (by omega) (by omega)) dX6_takeSlack_27 ?_
          refine lv_topi (fun x_34 ex_34 => ?_)
          have bx_34 : 0 ≤ x_34.toInt ∧ x_34.toInt ≤ 9 := by rw [ex_34]; exact hpg_2 _
          refine lv_iadd hx hb dX6_takeSlack_28 ?_
          refine lv_topi (fun x_35 ex_35 => ?_)
          have qx_35 : x_35.toInt = v_3.toInt + x_34.toInt := by rw [ex_35]; exact zf_add rfl rfl (by omega) (by omega)
          refine lv_istore_n (lv' := [(2, .int x_35), (3, .int i_6), (0, .ref z0), (1, .int md)]) hx hb dX6_takeSlack_29 rfl hl (by decide) rfl (fun ls hl => ?_)
          refine lv_aload_n hx hb dX6_takeSlack_30 rfl (lv_at hl 2 rfl) ?_
          refine va_get (D := D) (ci := 6) (v := .ref zs) (C := RX6) (T := TX6) (N := 5) hx hb hts hi_X6_takeSlack_6 hown hK hP 0 rfl rfl 1 (by decide) (hts (.fieldLink RX6 15 "TheLiningsInIt$Zip" "slacks" "[I") (List.mem_of_getElem? (i := 1) rfl)) (fun _ h9 => h9) rfl dX6_takeSlack_31 ?_
          refine lv_iload_n hx hb dX6_takeSlack_34 rfl (lv_at hl 1 rfl) ?_
          refine lv_iconst (v := 0) hx hb dX6_takeSlack_35 (by decide) ?_
          refine va_iast hx hb hK hP hD hS 1 0 rfl rfl (zf_in (by omega) (by omega)) dX6_takeSlack_36 (fun H locs hP hD hS => ?_)
          have hpg_36 : zRg (upd g_2 i_6.toNatClampNeg 0) (0) 9 := zRg_upd hpg_2 (by decide) (by decide)
          obtain ⟨g_36, hg_36⟩ : ∃ g : Nat → Int32, g = upd g_2 i_6.toNatClampNeg 0 := ⟨_, rfl⟩
          rw [← hg_36] at hP hD hpg_36
          have h9R := zRe (ws' := [(z0, .inr (6, [.ref zl, .ref zs, .int sz, .int at_, .int gp])), (zs, .inl (cI, 40, .inl g_36))]) hP hD rfl
          clear hP hD
          obtain ⟨hP, hD⟩ := h9R
          obtain ⟨x_37, ex_37⟩ : ∃ y : Int32, y = i_6 + 1 := ⟨_, rfl⟩
          have qx_37 : x_37.toInt = i_6.toInt + 1 := by rw [ex_37]; exact zf_add rfl (by decide) (by omega) (by omega)
          refine lv_iinc (v := x_37) (lv' := [(3, .int x_37), (2, .int x_35), (0, .ref z0), (1, .int md)]) hx hb dX6_takeSlack_37 hl (k := 1) rfl ex_37.symm (by decide) rfl (fun ls hl => ?_)
          refine lv_goto (tgt := 6) hx hb dX6_takeSlack_40 (by decide) ?_
          exact ih x_37 x_35 (g_36) _ _ _ (hP.sub [0, 1] rfl) (hD.sub [0, 1] (by decide) rfl) hS (lv_sub hl [0, 1, 2, 3] rfl) hpg_36 ⟨by omega, by omega⟩ (show (x_35 : Int32).toInt = zTk fs sz.toInt (md.toInt - 2) (x_37.toInt - (md.toInt - 2)).toNat from by (rw [show (x_37.toInt - (md.toInt - 2)).toNat = (i_6.toInt - (md.toInt - 2)).toNat + 1 from by omega, zTk_s, show md.toInt - 2 + (((i_6.toInt - (md.toInt - 2)).toNat : Nat) : Int) = i_6.toInt from by omega]; rw [if_pos (by omega)]; have h8 : (fs i_6.toInt.toNat).toInt = x_34.toInt := (by rw [ex_34]; have z := hvi_6_1 i_6.toInt.toNat; rw [if_neg (by omega)] at z; exact congrArg Int32.toInt z.symm); omega)) (show (∀ j : Nat, g_36 j = (if md.toInt - 2 ≤ (j : Int) ∧ (j : Int) < x_37.toInt ∧ (j : Int) < sz.toInt then 0 else fs j)) from by (intro j; rw [hg_36]; simp only [upd]; have h7 : i_6.toNatClampNeg = i_6.toInt.toNat := rfl; by_cases e9 : j = i_6.toNatClampNeg; (rw [if_pos e9, if_pos (by omega)]); (rw [if_neg e9]; have z := hvi_6_1 j; rw [z]; by_cases c : md.toInt - 2 ≤ (j : Int) ∧ (j : Int) < i_6.toInt ∧ (j : Int) < sz.toInt; (rw [if_pos c, if_pos (by omega)]); (rw [if_neg c, if_neg (by omega)])))) (show md.toInt - 2 ≤ x_37.toInt ∧ x_37.toInt ≤ md.toInt + 3 ∧ (x_35 : Int32).toInt ≤ 9 * (x_37.toInt - (md.toInt - 2)) from by exact ⟨by omega, by omega, by omega⟩) (dw_lo hloi_6 qx_37) (dw_hn hni_6 qx_37)
end
section
set_option maxHeartbeats 4000000 in
set_option maxRecDepth 100000 in
theorem c_F_M_isOpen (l : Launch) (D : va_G) (cI cJ cZ cP cS : ClassId) (po : zPool) (m0 mrf mki mpa mta mla msl mco mhe mso msi msh mce mca mwo mnu mte mwa mke mma mth mtr : Nat) (npu nte nat_ nde nto nse nhu nga nsd nfa nba npl nen nnu nwr nra nik : Int32) (gla : Nat → Int32) (t_ : Int32) (hy0 : 0 ≤ npu.toInt) (hy1 : npu.toInt ≤ 8) (hy2 : 4 ≤ nte.toInt) (hy3 : nte.toInt ≤ 40) (hy4 : 0 ≤ nat_.toInt) (hy5 : nat_.toInt ≤ 40) (hy6 : 0 ≤ nde.toInt) (hy7 : nde.toInt ≤ 24) (hy8 : 0 ≤ nhu.toInt) (hy9 : nhu.toInt ≤ 9) (hy10 : 0 ≤ nra.toInt) (hy11 : nra.toInt ≤ 2000) (hy12 : 0 ≤ nik.toInt) (hy13 : nik.toInt ≤ 1) (hy14 : 0 ≤ t_.toInt) (hy15 : t_.toInt ≤ 39) (hp_gla : zRg gla (0) 1) : Met l yX8_isOpen wsX8_isOpen ({ frames := 0, cells := 0, slots := 0, locals := 0 }) (va_Pc [.ref m0, .int t_] (zR D (zKT cI cJ cZ cP cS) po [(zMO m0 npu nte nat_ nde nto nse nhu nga nsd nfa mrf mki mpa mta mla msl mco mhe mso msi msh mce mca mwo mnu mte nba npl nen nnu nwr mwa mke mma mth mtr nra nik), (mla, .inl (cI, 40, .inl gla))])) (vp_Si (fun r => 0 ≤ r.toInt ∧ r.toInt ≤ 1 ∧ ((r.toInt = 1 → zOp gla nte.toInt t_.toInt) ∧ (r.toInt = 0 → ¬ zOp gla nte.toInt t_.toInt)))) 0 0 (fun _ => False) := by
  refine Met.ofW (cc := cX8_isOpen) (maxL := 2) (ret := (some .boolean)) (by decide) rfl ?_
  intro p e s m args below meth c s₁ B hml hv
  obtain ⟨rfl, hP, hK, hN, hZ⟩ := hv
  have hx := B.exec
  have hb := B.bytes
  have hr := B.returns
  have hts := atoms_spec (ws := wsX8_isOpen) B.pre
  have hown : s.vm.findClass RX8 = some m.cls := findClass_of_methodNamed B.named
  have hlocks := B.notSynchronized
  have hl := lv_entry ([.ref m0, .int t_]) (n := 2) (Nat.le_of_ble_eq_true rfl)
  rw [lg_entry_eq]
  generalize (lg_sl ([.ref m0, .int t_]) ++ List.replicate (2 - (lg_sl ([.ref m0, .int t_])).length) Slot.unset).toArray = ls at hl ⊢
  replace hl : lv_has ls 2 [(0, .ref m0), (1, .int t_)] := hl
  refine lv_iload_n hx hb dX8_isOpen_0 rfl (lv_at hl 1 rfl) ?_
  refine lv_iconst (v := 2) hx hb dX8_isOpen_1 (by decide) ?_
  refine lv_iadd hx hb dX8_isOpen_2 ?_
  refine lv_topi (fun x_1 ex_1 => ?_)
  have qx_1 : x_1.toInt = t_.toInt + 2 := by rw [ex_1]; exact zf_add rfl (by decide) (by omega) (by omega)
  refine lv_aload_n hx hb dX8_isOpen_3 rfl (lv_at hl 0 rfl) ?_
  refine va_get (D := D) (ci := 8) (v := .int nte) (C := RX8) (T := TX8) (N := 38) hx hb hts hi_X8_isOpen_8 hown hK hP 0 rfl rfl 1 (by decide) (hts (.fieldLink RX8 7 "TheLiningsInItModel" "teeth" "I") (List.mem_of_getElem? (i := 1) rfl)) (fun _ h9 => h9) rfl dX8_isOpen_4 ?_
  refine lv_icmp_ge (tgt := 48) hx hb dX8_isOpen_7 (by decide) (fun c_2 => ?_) (fun c_2 => ?_)
  · have fc_2 : nte.toInt ≤ x_1.toInt := zf_le c_2 rfl rfl
    refine lv_iconst (v := 0) hx hb dX8_isOpen_48 (by decide) ?_
    exact W.zret (v := 0) hx hb hr (by decide) (fun t ht hW => ⟨0, rfl, ⟨by decide, by decide, (show ((0 : Int32).toInt = 1 → zOp gla nte.toInt t_.toInt) ∧ ((0 : Int32).toInt = 0 → ¬ zOp gla nte.toInt t_.toInt) from by (exact ⟨fun h => absurd h (by decide), fun _ => fun z => by (obtain ⟨⟨z1, z2, z3⟩, ⟨z4, z5, z6⟩, z7, z8, z9⟩ := z; omega)⟩))⟩, ht⟩) (fun q hq => by cases hq) dX8_isOpen_49
  · have fc_2 : x_1.toInt < nte.toInt := zf_nle c_2 rfl rfl
    refine lv_aload_n hx hb dX8_isOpen_10 rfl (lv_at hl 0 rfl) ?_
    refine va_get (D := D) (ci := 8) (v := .ref mla) (C := RX8) (T := TX8) (N := 38) hx hb hts hi_X8_isOpen_8 hown hK hP 0 rfl rfl 14 (by decide) (hts (.fieldLink RX8 38 "TheLiningsInItModel" "lacks" "[I") (List.mem_of_getElem? (i := 2) rfl)) (fun _ h9 => h9) rfl dX8_isOpen_11 ?_
    refine lv_iload_n hx hb dX8_isOpen_14 rfl (lv_at hl 1 rfl) ?_
    refine va_iald hx hb hK hP 1 0 rfl rfl (zf_in (by omega) (by omega)) dX8_isOpen_15 ?_
    refine lv_topi (fun x_3 ex_3 => ?_)
    have bx_3 : 0 ≤ x_3.toInt ∧ x_3.toInt ≤ 1 := by rw [ex_3]; exact hp_gla _
    refine lv_iconst (v := 1) hx hb dX8_isOpen_16 (by decide) ?_
    refine lv_icmp_ne (tgt := 48) hx hb dX8_isOpen_17 (by decide) (fun c_4 => ?_) (fun c_4 => ?_)
    · have fc_4 : x_3.toInt ≠ 1 := zf_ne c_4 rfl (by decide)
      refine lv_iconst (v := 0) hx hb dX8_isOpen_48 (by decide) ?_
      exact W.zret (v := 0) hx hb hr (by decide) (fun t ht hW => ⟨0, rfl, ⟨by decide, by decide, (show ((0 : Int32).toInt = 1 → zOp gla nte.toInt t_.toInt) ∧ ((0 : Int32).toInt = 0 → ¬ zOp gla nte.toInt t_.toInt) from by (have h8 : (gla (t_.toInt).toNat).toInt = x_3.toInt := (by rw [ex_3]; exact congrArg (fun z : Int => (gla z.toNat).toInt) (by omega)); exact ⟨fun h => absurd h (by decide), fun _ => fun z => by (obtain ⟨⟨z1, z2, z3⟩, ⟨z4, z5, z6⟩, z7, z8, z9⟩ := z; omega)⟩))⟩, ht⟩) (fun q hq => by cases hq) dX8_isOpen_49
    · have fc_4 : x_3.toInt = 1 := zf_eq c_4 rfl (by decide)
      refine lv_aload_n hx hb dX8_isOpen_20 rfl (lv_at hl 0 rfl) ?_
      refine va_get (D := D) (ci := 8) (v := .ref mla) (C := RX8) (T := TX8) (N := 38) hx hb hts hi_X8_isOpen_8 hown hK hP 0 rfl rfl 14 (by decide) (hts (.fieldLink RX8 38 "TheLiningsInItModel" "lacks" "[I") (List.mem_of_getElem? (i := 2) rfl)) (fun _ h9 => h9) rfl dX8_isOpen_21 ?_
      refine lv_iload_n hx hb dX8_isOpen_24 rfl (lv_at hl 1 rfl) ?_
      refine lv_iconst (v := 1) hx hb dX8_isOpen_25 (by decide) ?_
      refine lv_iadd hx hb dX8_isOpen_26 ?_
      refine lv_topi (fun x_5 ex_5 => ?_)
      have qx_5 : x_5.toInt = t_.toInt + 1 := by rw [ex_5]; exact zf_add rfl (by decide) (by omega) (by omega)
      refine va_iald hx hb hK hP 1 0 rfl rfl (zf_in (by omega) (by omega)) dX8_isOpen_27 ?_
      refine lv_topi (fun x_6 ex_6 => ?_)
      have bx_6 : 0 ≤ x_6.toInt ∧ x_6.toInt ≤ 1 := by rw [ex_6]; exact hp_gla _
      refine lv_iconst (v := 1) hx hb dX8_isOpen_28 (by decide) ?_
      refine lv_icmp_ne (tgt := 48) hx hb dX8_isOpen_29 (by decide) (fun c_7 => ?_) (fun c_7 => ?_)
      · have fc_7 : x_6.toInt ≠ 1 := zf_ne c_7 rfl (by decide)
        refine lv_iconst (v := 0) hx hb dX8_isOpen_48 (by decide) ?_
        exact W.zret (v := 0) hx hb hr (by decide) (fun t ht hW => ⟨0, rfl, ⟨by decide, by decide, (show ((0 : Int32).toInt = 1 → zOp gla nte.toInt t_.toInt) ∧ ((0 : Int32).toInt = 0 → ¬ zOp gla nte.toInt t_.toInt) from by (have h8 : (gla (t_.toInt).toNat).toInt = x_3.toInt := (by rw [ex_3]; exact congrArg (fun z : Int => (gla z.toNat).toInt) (by omega)); have h9 : (gla (t_.toInt + 1).toNat).toInt = x_6.toInt := (by rw [ex_6]; exact congrArg (fun z : Int => (gla z.toNat).toInt) (by omega)); exact ⟨fun h => absurd h (by decide), fun _ => fun z => by (obtain ⟨⟨z1, z2, z3⟩, ⟨z4, z5, z6⟩, z7, z8, z9⟩ := z; omega)⟩))⟩, ht⟩) (fun q hq => by cases hq) dX8_isOpen_49
      · have fc_7 : x_6.toInt = 1 := zf_eq c_7 rfl (by decide)
        refine lv_aload_n hx hb dX8_isOpen_32 rfl (lv_at hl 0 rfl) ?_
        refine va_get (D := D) (ci := 8) (v := .ref mla) (C := RX8) (T := TX8) (N := 38) hx hb hts hi_X8_isOpen_8 hown hK hP 0 rfl rfl 14 (by decide) (hts (.fieldLink RX8 38 "TheLiningsInItModel" "lacks" "[I") (List.mem_of_getElem? (i := 2) rfl)) (fun _ h9 => h9) rfl dX8_isOpen_33 ?_
        refine lv_iload_n hx hb dX8_isOpen_36 rfl (lv_at hl 1 rfl) ?_
        refine lv_iconst (v := 2) hx hb dX8_isOpen_37 (by decide) ?_
        refine lv_iadd hx hb dX8_isOpen_38 ?_
        refine lv_topi (fun y_8 ey_8 => ?_)
        obtain rfl : x_1 = y_8 := ex_1.trans ey_8.symm
        refine va_iald hx hb hK hP 1 0 rfl rfl (zf_in (by omega) (by omega)) dX8_isOpen_39 ?_
        refine lv_topi (fun x_9 ex_9 => ?_)
        have bx_9 : 0 ≤ x_9.toInt ∧ x_9.toInt ≤ 1 := by rw [ex_9]; exact hp_gla _
        refine lv_iconst (v := 1) hx hb dX8_isOpen_40 (by decide) ?_
        refine lv_icmp_ne (tgt := 48) hx hb dX8_isOpen_41 (by decide) (fun c_10 => ?_) (fun c_10 => ?_)
        · have fc_10 : x_9.toInt ≠ 1 := zf_ne c_10 rfl (by decide)
          refine lv_iconst (v := 0) hx hb dX8_isOpen_48 (by decide) ?_
          exact W.zret (v := 0) hx hb hr (by decide) (fun t ht hW => ⟨0, rfl, ⟨by decide, by decide, (show ((0 : Int32).toInt = 1 → zOp gla nte.toInt t_.toInt) ∧ ((0 : Int32).toInt = 0 → ¬ zOp gla nte.toInt t_.toInt) from by (have h8 : (gla (t_.toInt).toNat).toInt = x_3.toInt := (by rw [ex_3]; exact congrArg (fun z : Int => (gla z.toNat).toInt) (by omega)); have h9 : (gla (t_.toInt + 1).toNat).toInt = x_6.toInt := (by rw [ex_6]; exact congrArg (fun z : Int => (gla z.toNat).toInt) (by omega)); have h10 : (gla (t_.toInt + 2).toNat).toInt = x_9.toInt := (by rw [ex_9]; exact congrArg (fun z : Int => (gla z.toNat).toInt) (by omega)); exact ⟨fun h => absurd h (by decide), fun _ => fun z => by (obtain ⟨⟨z1, z2, z3⟩, ⟨z4, z5, z6⟩, z7, z8, z9⟩ := z; omega)⟩))⟩, ht⟩) (fun q hq => by cases hq) dX8_isOpen_49
        · have fc_10 : x_9.toInt = 1 := zf_eq c_10 rfl (by decide)
          refine lv_iconst (v := 1) hx hb dX8_isOpen_44 (by decide) ?_
          refine lv_goto (tgt := 49) hx hb dX8_isOpen_45 (by decide) ?_
          exact W.zret (v := 1) hx hb hr (by decide) (fun t ht hW => ⟨1, rfl, ⟨by decide, by decide, (show ((1 : Int32).toInt = 1 → zOp gla nte.toInt t_.toInt) ∧ ((1 : Int32).toInt = 0 → ¬ zOp gla nte.toInt t_.toInt) from by (have h8 : (gla (t_.toInt).toNat).toInt = x_3.toInt := (by rw [ex_3]; exact congrArg (fun z : Int => (gla z.toNat).toInt) (by omega)); have h9 : (gla (t_.toInt + 1).toNat).toInt = x_6.toInt := (by rw [ex_6]; exact congrArg (fun z : Int => (gla z.toNat).toInt) (by omega)); have h10 : (gla (t_.toInt + 2).toNat).toInt = x_9.toInt := (by rw [ex_9]; exact congrArg (fun z : Int => (gla z.toNat).toInt) (by omega)); exact ⟨fun _ => ⟨⟨by omega, by omega, by omega⟩, ⟨by omega, by omega, by omega⟩, by omega, by omega, by omega⟩, fun h => absurd h (by decide)⟩))⟩, ht⟩) (fun q hq => by cases hq) dX8_isOpen_49
set_option maxHeartbeats 4000000 in
set_option maxRecDepth 100000 in
theorem c_F_M_doesHold (l : Launch) (D : va_G) (cI cJ cZ cP cS : ClassId) (po : zPool) (m0 mrf mki mpa mta mla msl mco mhe mso msi msh mce mca mwo mnu mte mwa mke mma mth mtr : Nat) (npu nte nat_ nde nto nse nhu nga nsd nfa nba npl nen nnu nwr nra nik : Int32) (gla : Nat → Int32) (hy0 : 0 ≤ npu.toInt) (hy1 : npu.toInt ≤ 8) (hy2 : 4 ≤ nte.toInt) (hy3 : nte.toInt ≤ 40) (hy4 : 0 ≤ nat_.toInt) (hy5 : nat_.toInt ≤ 40) (hy6 : 0 ≤ nde.toInt) (hy7 : nde.toInt ≤ 24) (hy8 : 0 ≤ nhu.toInt) (hy9 : nhu.toInt ≤ 9) (hy10 : 0 ≤ nra.toInt) (hy11 : nra.toInt ≤ 2000) (hy12 : 0 ≤ nik.toInt) (hy13 : nik.toInt ≤ 1) (hp_gla : zRg gla (0) 1) : Met l yX8_doesHold wsX8_doesHold ({ frames := 1, cells := 0, slots := 0, locals := 21 }) (va_Pc [.ref m0] (zR D (zKT cI cJ cZ cP cS) po [(zMO m0 npu nte nat_ nde nto nse nhu nga nsd nfa mrf mki mpa mta mla msl mco mhe mso msi msh mce mca mwo mnu mte nba npl nen nnu nwr mwa mke mma mth mtr nra nik), (mla, .inl (cI, 40, .inl gla))])) (vp_Si (fun r => 0 ≤ r.toInt ∧ r.toInt ≤ 1 ∧ ((r.toInt = 1 → zHd gla nte.toInt) ∧ (r.toInt = 0 → ¬ zHd gla nte.toInt)))) 0 0 (fun _ => False) := by
  refine Met.ofW (cc := cX8_doesHold) (maxL := 2) (ret := (some .boolean)) (by decide) rfl ?_
  intro p e s m args below meth c s₁ B hml hv
  obtain ⟨rfl, hP, hK, hN, hZ⟩ := hv
  have hx := B.exec
  have hb := B.bytes
  have hr := B.returns
  have hts := atoms_spec (ws := wsX8_doesHold) B.pre
  have hown : s.vm.findClass RX8 = some m.cls := findClass_of_methodNamed B.named
  have hlocks := B.notSynchronized
  have hl := lv_entry ([.ref m0]) (n := 2) (Nat.le_of_ble_eq_true rfl)
  rw [lg_entry_eq]
  generalize (lg_sl ([.ref m0]) ++ List.replicate (2 - (lg_sl ([.ref m0])).length) Slot.unset).toArray = ls at hl ⊢
  replace hl : lv_has ls 2 [(0, .ref m0)] := hl
  refine lv_iconst (v := 0) hx hb dX8_doesHold_0 (by decide) ?_
  refine lv_istore_n (lv' := [(1, .int 0), (0, .ref m0)]) hx hb dX8_doesHold_1 rfl hl (by decide) rfl (fun ls hl => ?_)
  obtain ⟨i_2, hi_2⟩ : ∃ i : Int32, i = 0 := ⟨_, rfl⟩
  replace hl : lv_has ls 2 [(1, .int i_2), (0, .ref m0)] := by rw [hi_2]; exact lv_sub hl [0, 1] rfl
  have h1i_2 : i_2.toInt = 0 := by rw [hi_2]; decide
  obtain ⟨nfu, hni_2⟩ : ∃ nq9 : Nat, nte.toInt ≤ i_2.toInt + (nq9 : Int) := ⟨((nte.toInt : Int) - 0).toNat, by omega⟩
  have hloi_2 : 0 ≤ i_2.toInt := by omega
  have hvi_2_0 : (∀ u : Int, 0 ≤ u → u < i_2.toInt → ¬ zOp gla nte.toInt u) := by
    (try rw [hi_2]); (intro u h1 h2; exfalso; have k0 : (0 : Int32).toInt = 0 := (by decide); omega)
  clear h1i_2 hi_2
  revert hni_2
  revert hloi_2
  revert hvi_2_0
  revert hl
  revert ls
  revert i_2
  induction nfu with
  | zero =>
    intro i_2 ls hl hvi_2_0 hloi_2 hni_2
    have hzi_2 : nte.toInt ≤ i_2.toInt := by omega
    refine lv_iload_n hx hb dX8_doesHold_2 rfl (lv_at hl 0 rfl) ?_
    refine lv_aload_n hx hb dX8_doesHold_3 rfl (lv_at hl 1 rfl) ?_
    refine va_get (D := D) (ci := 8) (v := .int nte) (C := RX8) (T := TX8) (N := 38) hx hb hts hi_X8_doesHold_8 hown hK hP 0 rfl rfl 1 (by decide) (hts (.fieldLink RX8 7 "TheLiningsInItModel" "teeth" "I") (List.mem_of_getElem? (i := 1) rfl)) (fun _ h9 => h9) rfl dX8_doesHold_4 ?_
    refine lv_icmp_ge (tgt := 26) hx hb dX8_doesHold_7 (by decide) (fun c_1 => ?_) (fun c_1 => ?_)
    · have fc_1 : nte.toInt ≤ i_2.toInt := zf_le c_1 rfl rfl
      refine lv_iconst (v := 1) hx hb dX8_doesHold_26 (by decide) ?_
      exact W.zret (v := 1) hx hb hr (by decide) (fun t ht hW => ⟨1, rfl, ⟨by decide, by decide, (show ((1 : Int32).toInt = 1 → zHd gla nte.toInt) ∧ ((1 : Int32).toInt = 0 → ¬ zHd gla nte.toInt) from by (exact ⟨fun _ => fun u a b => hvi_2_0 u a (by omega), fun h => absurd h (by decide)⟩))⟩, ht⟩) (fun q hq => by cases hq) dX8_doesHold_27
    · exfalso; have fc_1 : i_2.toInt < nte.toInt := zf_nle c_1 rfl rfl; omega
  | succ nfu ih =>
    intro i_2 ls hl hvi_2_0 hloi_2 hni_2
    refine lv_iload_n hx hb dX8_doesHold_2 rfl (lv_at hl 0 rfl) ?_
    refine lv_aload_n hx hb dX8_doesHold_3 rfl (lv_at hl 1 rfl) ?_
    refine va_get (D := D) (ci := 8) (v := .int nte) (C := RX8) (T := TX8) (N := 38) hx hb hts hi_X8_doesHold_8 hown hK hP 0 rfl rfl 1 (by decide) (hts (.fieldLink RX8 7 "TheLiningsInItModel" "teeth" "I") (List.mem_of_getElem? (i := 1) rfl)) (fun _ h9 => h9) rfl dX8_doesHold_4 ?_
    refine lv_icmp_ge (tgt := 26) hx hb dX8_doesHold_7 (by decide) (fun c_2 => ?_) (fun c_2 => ?_)
    · have fc_2 : nte.toInt ≤ i_2.toInt := zf_le c_2 rfl rfl
      refine lv_iconst (v := 1) hx hb dX8_doesHold_26 (by decide) ?_
      exact W.zret (v := 1) hx hb hr (by decide) (fun t ht hW => ⟨1, rfl, ⟨by decide, by decide, (show ((1 : Int32).toInt = 1 → zHd gla nte.toInt) ∧ ((1 : Int32).toInt = 0 → ¬ zHd gla nte.toInt) from by (exact ⟨fun _ => fun u a b => hvi_2_0 u a (by omega), fun h => absurd h (by decide)⟩))⟩, ht⟩) (fun q hq => by cases hq) dX8_doesHold_27
    · have fc_2 : i_2.toInt < nte.toInt := zf_nle c_2 rfl rfl
      refine lv_aload_n hx hb dX8_doesHold_10 rfl (lv_at hl 1 rfl) ?_
      refine lv_iload_n hx hb dX8_doesHold_11 rfl (lv_at hl 0 rfl) ?_
      refine zc_V (As := [.int i_2]) (rest := []) ⟨hx, hb, hml, hown, hts⟩ (c_F_M_isOpen l D cI cJ cZ cP cS po m0 mrf mki mpa mta mla msl mco mhe mso msi msh mce mca mwo mnu mte mwa mke mma mth mtr (npu) (nte) (nat_) (nde) (nto) (nse) (nhu) (nga) (nsd) (nfa) (nba) (npl) (nen) (nnu) (nwr) (nra) (nik) gla (i_2) hy0 hy1 hy2 hy3 hy4 hy5 hy6 hy7 hy8 hy9 hy10 hy11 hy12 hy13 (by omega) (by omega) hp_gla) (cwV 1 hts gX8_doesHold_X8_isOpen rfl rfl rfl ⟨rfl, dh_X8_isOpen⟩ ⟨Nat.le_of_ble_eq_true rfl, Nat.le_of_ble_eq_true rfl⟩) hK hN hZ hP (hP.sub [0, 1] rfl) (va_recv (q := (RX8, TX8, 38)) hK hP (ci := 8) (q0 := 0) rfl rfl) rfl hl.1 rfl (Nat.le_of_ble_eq_true rfl) dX8_doesHold_12 ⟨Nat.le_of_ble_eq_true rfl, Nat.le_of_ble_eq_true rfl⟩ (fun r_3 hr_3 => ?_)
      obtain ⟨g_4, g_5, hsr_3_0⟩ := hr_3
      refine lv_if_eq (tgt := 20) hx hb dX8_doesHold_15 (by decide) (fun c_6 => ?_) (fun c_6 => ?_)
      · have fc_6 : r_3.toInt = 0 := zf_eq c_6 rfl (by decide)
        obtain ⟨x_7, ex_7⟩ : ∃ y : Int32, y = i_2 + 1 := ⟨_, rfl⟩
        have qx_7 : x_7.toInt = i_2.toInt + 1 := dw_inc ex_7 fc_2
        refine lv_iinc (v := x_7) (lv' := [(1, .int x_7), (0, .ref m0)]) hx hb dX8_doesHold_20 hl (k := 0) rfl ex_7.symm (by decide) rfl (fun ls hl => ?_)
        refine lv_goto (tgt := 2) hx hb dX8_doesHold_23 (by decide) ?_
        exact ih x_7 _ (lv_sub hl [0, 1] rfl) (show (∀ u : Int, 0 ≤ u → u < x_7.toInt → ¬ zOp gla nte.toInt u) from by exact zAll_S (P := fun u => ¬ zOp gla nte.toInt u) hvi_2_0 (hsr_3_0.2 (by omega)) (by omega)) (dw_lo hloi_2 qx_7) (dw_hn hni_2 qx_7)
      · have fc_6 : r_3.toInt ≠ 0 := zf_ne c_6 rfl (by decide)
        refine lv_iconst (v := 0) hx hb dX8_doesHold_18 (by decide) ?_
        exact W.zret (v := 0) hx hb hr (by decide) (fun t ht hW => ⟨0, rfl, ⟨by decide, by decide, (show ((0 : Int32).toInt = 1 → zHd gla nte.toInt) ∧ ((0 : Int32).toInt = 0 → ¬ zHd gla nte.toInt) from by (exact ⟨fun h => absurd h (by decide), fun _ => fun hd => hd i_2.toInt (by omega) (by omega) (hsr_3_0.1 (by omega))⟩))⟩, ht⟩) (fun q hq => by cases hq) dX8_doesHold_19
set_option maxHeartbeats 4000000 in
set_option maxRecDepth 100000 in
theorem c_F_M_frail (l : Launch) (D : va_G) (cI cJ cZ cP cS : ClassId) (po : zPool) (m0 mrf mki mpa mta mla msl mco mhe mso msi msh mce mca mwo mnu mte mwa mke mma mth mtr : Nat) (npu nte nat_ nde nto nse nhu nga nsd nfa nba npl nen nnu nwr nra nik : Int32) (gla : Nat → Int32) (hy0 : 0 ≤ npu.toInt) (hy1 : npu.toInt ≤ 8) (hy2 : 4 ≤ nte.toInt) (hy3 : nte.toInt ≤ 40) (hy4 : 0 ≤ nat_.toInt) (hy5 : nat_.toInt ≤ 40) (hy6 : 0 ≤ nde.toInt) (hy7 : nde.toInt ≤ 24) (hy8 : 0 ≤ nhu.toInt) (hy9 : nhu.toInt ≤ 9) (hy10 : 0 ≤ nra.toInt) (hy11 : nra.toInt ≤ 2000) (hy12 : 0 ≤ nik.toInt) (hy13 : nik.toInt ≤ 1) (hp_gla : zRg gla (0) 1) (hpz : Nat) : Met l yX8_frail wsX8_frail ({ frames := 2, cells := 0, slots := 0, locals := 42 }) (va_Pc [.ref m0] (zW D (zKT cI cJ cZ cP cS) po [(zMO m0 npu nte nat_ nde nto nse nhu nga nsd nfa mrf mki mpa mta mla msl mco mhe mso msi msh mce mca mwo mnu mte nba npl nen nnu nwr mwa mke mma mth mtr nra nik), (mla, .inl (cI, 40, .inl gla))] hpz)) (va_Qi (fun (r : Int32) (gla2 : (Nat → Int32)) => zRg gla2 (0) 1 ∧ (gla2 = gla) ∧ ((zHd gla nte.toInt → r.toInt = zCf gla nte.toInt nte.toInt.toNat) ∧ (¬ zHd gla nte.toInt → r.toInt = 0)) ∧ (True)) (zB D [(zMO m0 npu nte nat_ nde nto nse nhu nga nsd nfa mrf mki mpa mta mla msl mco mhe mso msi msh mce mca mwo mnu mte nba npl nen nnu nwr mwa mke mma mth mtr nra nik), (mla, .inl (cI, 40, .inl gla))] hpz (fun (gla2 : Nat → Int32) => [(zMO m0 npu nte nat_ nde nto nse nhu nga nsd nfa mrf mki mpa mta mla msl mco mhe mso msi msh mce mca mwo mnu mte nba npl nen nnu nwr mwa mke mma mth mtr nra nik), (mla, .inl (cI, 40, .inl gla2))])) (va_A [(zMO m0 npu nte nat_ nde nto nse nhu nga nsd nfa mrf mki mpa mta mla msl mco mhe mso msi msh mce mca mwo mnu mte nba npl nen nnu nwr mwa mke mma mth mtr nra nik), (mla, .inl (cI, 40, .inl gla))] hpz)) 0 0 (va_A [(zMO m0 npu nte nat_ nde nto nse nhu nga nsd nfa mrf mki mpa mta mla msl mco mhe mso msi msh mce mca mwo mnu mte nba npl nen nnu nwr mwa mke mma mth mtr nra nik), (mla, .inl (cI, 40, .inl gla))] hpz) := by
  refine Met.ofW (cc := cX8_frail) (maxL := 3) (ret := (some .int)) (by decide) rfl ?_
  intro p e s m args below meth c s₁ B hml hv
  obtain ⟨rfl, hsz, hP, hK, hD0, hN, hZ⟩ := hv
  have hx := B.exec
  have hb := B.bytes
  have hr := B.returns
  have hts := atoms_spec (ws := wsX8_frail) B.pre
  have hown : s.vm.findClass RX8 = some m.cls := findClass_of_methodNamed B.named
  have hlocks := B.notSynchronized
  subst hsz
  have hD := hD0.self (sz := s.heap.size)
  have hA := zA_of hD
  have hl := lv_entry ([.ref m0]) (n := 3) (Nat.le_of_ble_eq_true rfl)
  rw [lg_entry_eq]
  generalize (lg_sl ([.ref m0]) ++ List.replicate (3 - (lg_sl ([.ref m0])).length) Slot.unset).toArray = ls at hl ⊢
  replace hl : lv_has ls 3 [(0, .ref m0)] := hl
  refine zw_begin hP hD (fun H locs hP1 hS => ?_)
  clear hP
  have hP := hP1
  clear hP1
  refine lv_iconst (v := 0) hx hb dX8_frail_0 (by decide) ?_
  refine lv_istore_n (lv' := [(1, .int 0), (0, .ref m0)]) hx hb dX8_frail_1 rfl hl (by decide) rfl (fun ls hl => ?_)
  refine lv_iconst (v := 0) hx hb dX8_frail_2 (by decide) ?_
  refine lv_istore_n (lv' := [(2, .int 0), (1, .int 0), (0, .ref m0)]) hx hb dX8_frail_3 rfl hl (by decide) rfl (fun ls hl => ?_)
  obtain ⟨i_4, hi_4⟩ : ∃ i : Int32, i = 0 := ⟨_, rfl⟩
  replace hl : lv_has ls 3 [(2, .int i_4), (1, .int 0), (0, .ref m0)] := by rw [hi_4]; exact lv_sub hl [0, 1, 2] rfl
  have h1i_4 : i_4.toInt = 0 := by rw [hi_4]; decide
  obtain ⟨nfu, hni_4⟩ : ∃ nq9 : Nat, nte.toInt ≤ i_4.toInt + (nq9 : Int) := ⟨((nte.toInt : Int) - 0).toNat, by omega⟩
  have hloi_4 : 0 ≤ i_4.toInt := by omega
  obtain ⟨g_1, hg_1⟩ : ∃ g : Nat → Int32, g = gla := ⟨_, rfl⟩
  have hpg_1 : zRg g_1 (0) 1 := by rw [hg_1]; exact hp_gla
  replace hP : va_P D vwCl [(zMO m0 npu nte nat_ nde nto nse nhu nga nsd nfa mrf mki mpa mta mla msl mco mhe mso msi msh mce mca mwo mnu mte nba npl nen nnu nwr mwa mke mma mth mtr nra nik), (mla, .inl (cI, 40, .inl g_1))] H := by rw [hg_1]; exact hP
  replace hD : va_D (va_A [(zMO m0 npu nte nat_ nde nto nse nhu nga nsd nfa mrf mki mpa mta mla msl mco mhe mso msi msh mce mca mwo mnu mte nba npl nen nnu nwr mwa mke mma mth mtr nra nik), (mla, .inl (cI, 40, .inl gla))] s.heap.size) [(zMO m0 npu nte nat_ nde nto nse nhu nga nsd nfa mrf mki mpa mta mla msl mco mhe mso msi msh mce mca mwo mnu mte nba npl nen nnu nwr mwa mke mma mth mtr nra nik), (mla, .inl (cI, 40, .inl g_1))] := by rw [hg_1]; exact hD
  obtain ⟨v_2, hv_2⟩ : ∃ g : Int32, g = 0 := ⟨_, rfl⟩
  replace hl : lv_has ls 3 [(2, .int i_4), (1, .int v_2), (0, .ref m0)] := by rw [hv_2]; exact hl
  have hbv_2 : 0 ≤ v_2.toInt ∧ v_2.toInt ≤ 40 := by rw [hv_2]; exact ⟨by decide, by decide⟩
  have hvi_4_0 : (g_1 = gla) := by
    (try rw [hi_4]); (try rw [hg_1]); (try rw [hv_2]); first | done | rfl
  have hvi_4_1 : ((zHd gla nte.toInt → (v_2 : Int32).toInt = zCf gla nte.toInt i_4.toInt.toNat) ∧ (¬ zHd gla nte.toInt → (v_2 : Int32).toInt = 0)) := by
    (try rw [hi_4]); (try rw [hg_1]); (try rw [hv_2]); (exact ⟨fun _ => (by rw [(show ((0 : Int32).toInt.toNat) = 0 from by decide)]; show (0 : Int32).toInt = 0; decide), fun _ => by decide⟩)
  have hvi_4_2 : (v_2 : Int32).toInt ≤ i_4.toInt := by
    (try rw [hi_4]); (try rw [hg_1]); (try rw [hv_2]); first | omega | decide
  have hvi_4_3 : i_4.toInt ≤ nte.toInt := by
    (try rw [hi_4]); (try rw [hg_1]); (try rw [hv_2]); (have k0 : (0 : Int32).toInt = 0 := (by decide); omega)
  clear h1i_4 hi_4 hg_1 hv_2
  skip
  revert hni_4
  revert hloi_4
  revert hvi_4_3
  revert hvi_4_2
  revert hvi_4_1
  revert hvi_4_0
  revert hbv_2
  revert hpg_1
  revert hl
  revert hS
  revert hD
  revert hP
  revert ls
  revert locs
  revert H
  revert g_1
  revert v_2
  revert i_4
  induction nfu with
  | zero =>
    intro i_4 v_2 g_1 H locs ls hP hD hS hl hpg_1 hbv_2 hvi_4_0 hvi_4_1 hvi_4_2 hvi_4_3 hloi_4 hni_4
    have hzi_4 : nte.toInt ≤ i_4.toInt := by omega
    refine lv_iload_n hx hb dX8_frail_4 rfl (lv_at hl 0 rfl) ?_
    refine lv_aload_n hx hb dX8_frail_5 rfl (lv_at hl 2 rfl) ?_
    refine va_get (D := D) (ci := 8) (v := .int nte) (C := RX8) (T := TX8) (N := 38) hx hb hts hi_X8_frail_8 hown hK hP 0 rfl rfl 1 (by decide) (hts (.fieldLink RX8 7 "TheLiningsInItModel" "teeth" "I") (List.mem_of_getElem? (i := 1) rfl)) (fun _ h9 => h9) rfl dX8_frail_6 ?_
    refine lv_icmp_ge (tgt := 62) hx hb dX8_frail_9 (by decide) (fun c_3 => ?_) (fun c_3 => ?_)
    · have fc_3 : nte.toInt ≤ i_4.toInt := zf_le c_3 rfl rfl
      refine lv_iload_n hx hb dX8_frail_62 rfl (lv_at hl 1 rfl) ?_
      exact W.iret (v := v_2) hx hb hr (fun t ht hW => ⟨⟨v_2, g_1, rfl, ⟨hpg_1, (show g_1 = gla from by exact hvi_4_0), (show (zHd gla nte.toInt → (v_2 : Int32).toInt = zCf gla nte.toInt nte.toInt.toNat) ∧ (¬ zHd gla nte.toInt → (v_2 : Int32).toInt = 0) from by (have h9 : i_4.toInt.toNat = nte.toInt.toNat := (by omega); have z := hvi_4_1; rw [h9] at z; exact z)), trivial⟩, zRet ht hP hD [0, 1] (by decide) rfl⟩, hS.F ht⟩) hS.2.2 dX8_frail_63
    · exfalso; have fc_3 : i_4.toInt < nte.toInt := zf_nle c_3 rfl rfl; omega
  | succ nfu ih =>
    intro i_4 v_2 g_1 H locs ls hP hD hS hl hpg_1 hbv_2 hvi_4_0 hvi_4_1 hvi_4_2 hvi_4_3 hloi_4 hni_4
    refine lv_iload_n hx hb dX8_frail_4 rfl (lv_at hl 0 rfl) ?_
    refine lv_aload_n hx hb dX8_frail_5 rfl (lv_at hl 2 rfl) ?_
    refine va_get (D := D) (ci := 8) (v := .int nte) (C := RX8) (T := TX8) (N := 38) hx hb hts hi_X8_frail_8 hown hK hP 0 rfl rfl 1 (by decide) (hts (.fieldLink RX8 7 "TheLiningsInItModel" "teeth" "I") (List.mem_of_getElem? (i := 1) rfl)) (fun _ h9 => h9) rfl dX8_frail_6 ?_
    refine lv_icmp_ge (tgt := 62) hx hb dX8_frail_9 (by decide) (fun c_4 => ?_) (fun c_4 => ?_)
    · have fc_4 : nte.toInt ≤ i_4.toInt := zf_le c_4 rfl rfl
      refine lv_iload_n hx hb dX8_frail_62 rfl (lv_at hl 1 rfl) ?_
      exact W.iret (v := v_2) hx hb hr (fun t ht hW => ⟨⟨v_2, g_1, rfl, ⟨hpg_1, (show g_1 = gla from by exact hvi_4_0), (show (zHd gla nte.toInt → (v_2 : Int32).toInt = zCf gla nte.toInt nte.toInt.toNat) ∧ (¬ zHd gla nte.toInt → (v_2 : Int32).toInt = 0) from by (have h9 : i_4.toInt.toNat = nte.toInt.toNat := (by omega); have z := hvi_4_1; rw [h9] at z; exact z)), trivial⟩, zRet ht hP hD [0, 1] (by decide) rfl⟩, hS.F ht⟩) hS.2.2 dX8_frail_63
    · have fc_4 : i_4.toInt < nte.toInt := zf_nle c_4 rfl rfl
      refine lv_aload_n hx hb dX8_frail_12 rfl (lv_at hl 2 rfl) ?_
      refine zc_V (As := []) (rest := []) ⟨hx, hb, hml, hown, hts⟩ (c_F_M_doesHold l D cI cJ cZ cP cS po m0 mrf mki mpa mta mla msl mco mhe mso msi msh mce mca mwo mnu mte mwa mke mma mth mtr (npu) (nte) (nat_) (nde) (nto) (nse) (nhu) (nga) (nsd) (nfa) (nba) (npl) (nen) (nnu) (nwr) (nra) (nik) g_1 hy0 hy1 hy2 hy3 hy4 hy5 hy6 hy7 hy8 hy9 hy10 hy11 hy12 hy13 hpg_1) (cwV 0 hts gX8_frail_X8_doesHold rfl rfl rfl ⟨rfl, dh_X8_doesHold⟩ ⟨Nat.le_of_ble_eq_true rfl, Nat.le_of_ble_eq_true rfl⟩) hK hN (hZ.kept hS) hP (hP.sub [0, 1] rfl) (va_recv (q := (RX8, TX8, 38)) hK hP (ci := 8) (q0 := 0) rfl rfl) rfl hl.1 rfl (Nat.le_of_ble_eq_true rfl) dX8_frail_13 ⟨Nat.le_of_ble_eq_true rfl, Nat.le_of_ble_eq_true rfl⟩ (fun r_5 hr_5 => ?_)
      obtain ⟨g_6, g_7, hsr_5_0⟩ := hr_5
      have q1 := hsr_5_0
      rw [hvi_4_0] at q1
      refine lv_if_eq (tgt := 62) hx hb dX8_frail_16 (by decide) (fun c_8 => ?_) (fun c_8 => ?_)
      · have fc_8 : r_5.toInt = 0 := zf_eq c_8 rfl (by decide)
        refine lv_iload_n hx hb dX8_frail_62 rfl (lv_at hl 1 rfl) ?_
        exact W.iret (v := v_2) hx hb hr (fun t ht hW => ⟨⟨v_2, g_1, rfl, ⟨hpg_1, (show g_1 = gla from by exact hvi_4_0), (show (zHd gla nte.toInt → (v_2 : Int32).toInt = zCf gla nte.toInt nte.toInt.toNat) ∧ (¬ zHd gla nte.toInt → (v_2 : Int32).toInt = 0) from by (exact ⟨fun hd => absurd hd (q1.2 (by omega)), fun hd => hvi_4_1.2 hd⟩)), trivial⟩, zRet ht hP hD [0, 1] (by decide) rfl⟩, hS.F ht⟩) hS.2.2 dX8_frail_63
      · have fc_8 : r_5.toInt ≠ 0 := zf_ne c_8 rfl (by decide)
        refine lv_aload_n hx hb dX8_frail_19 rfl (lv_at hl 2 rfl) ?_
        refine va_get (D := D) (ci := 8) (v := .ref mla) (C := RX8) (T := TX8) (N := 38) hx hb hts hi_X8_frail_8 hown hK hP 0 rfl rfl 14 (by decide) (hts (.fieldLink RX8 38 "TheLiningsInItModel" "lacks" "[I") (List.mem_of_getElem? (i := 2) rfl)) (fun _ h9 => h9) rfl dX8_frail_20 ?_
        refine lv_iload_n hx hb dX8_frail_23 rfl (lv_at hl 0 rfl) ?_
        refine va_iald hx hb hK hP 1 0 rfl rfl (zf_in (by omega) (by omega)) dX8_frail_24 ?_
        refine lv_topi (fun x_9 ex_9 => ?_)
        have bx_9 : 0 ≤ x_9.toInt ∧ x_9.toInt ≤ 1 := by rw [ex_9]; exact hpg_1 _
        refine lv_iconst (v := 1) hx hb dX8_frail_25 (by decide) ?_
        have h8 : (gla i_4.toInt.toNat).toInt = x_9.toInt := by (rw [← hvi_4_0, ex_9]; rfl)
        refine lv_icmp_ne (tgt := 32) hx hb dX8_frail_26 (by decide) (fun c_10 => ?_) (fun c_10 => ?_)
        · have fc_10 : x_9.toInt ≠ 1 := zf_ne c_10 rfl (by decide)
          refine lv_aload_n hx hb dX8_frail_32 rfl (lv_at hl 2 rfl) ?_
          refine va_get (D := D) (ci := 8) (v := .ref mla) (C := RX8) (T := TX8) (N := 38) hx hb hts hi_X8_frail_8 hown hK hP 0 rfl rfl 14 (by decide) (hts (.fieldLink RX8 38 "TheLiningsInItModel" "lacks" "[I") (List.mem_of_getElem? (i := 2) rfl)) (fun _ h9 => h9) rfl dX8_frail_33 ?_
          refine lv_iload_n hx hb dX8_frail_36 rfl (lv_at hl 0 rfl) ?_
          refine lv_iconst (v := 1) hx hb dX8_frail_37 (by decide) ?_
          refine va_iast hx hb hK hP hD hS 1 0 rfl rfl (zf_in (by omega) (by omega)) dX8_frail_38 (fun H locs hP hD hS => ?_)
          have hpg_11 : zRg (upd g_1 i_4.toNatClampNeg 1) (0) 1 := zRg_upd hpg_1 (by decide) (by decide)
          obtain ⟨g_11, hg_11⟩ : ∃ g : Nat → Int32, g = upd g_1 i_4.toNatClampNeg 1 := ⟨_, rfl⟩
          rw [← hg_11] at hP hD hpg_11
          have h9R := zRe (ws' := [(zMO m0 npu nte nat_ nde nto nse nhu nga nsd nfa mrf mki mpa mta mla msl mco mhe mso msi msh mce mca mwo mnu mte nba npl nen nnu nwr mwa mke mma mth mtr nra nik), (mla, .inl (cI, 40, .inl g_11))]) hP hD rfl
          clear hP hD
          obtain ⟨hP, hD⟩ := h9R
          refine lv_aload_n hx hb dX8_frail_39 rfl (lv_at hl 2 rfl) ?_
          refine zc_V (As := []) (rest := []) ⟨hx, hb, hml, hown, hts⟩ (c_F_M_doesHold l D cI cJ cZ cP cS po m0 mrf mki mpa mta mla msl mco mhe mso msi msh mce mca mwo mnu mte mwa mke mma mth mtr (npu) (nte) (nat_) (nde) (nto) (nse) (nhu) (nga) (nsd) (nfa) (nba) (npl) (nen) (nnu) (nwr) (nra) (nik) g_11 hy0 hy1 hy2 hy3 hy4 hy5 hy6 hy7 hy8 hy9 hy10 hy11 hy12 hy13 hpg_11) (cwV 0 hts gX8_frail_X8_doesHold rfl rfl rfl ⟨rfl, dh_X8_doesHold⟩ ⟨Nat.le_of_ble_eq_true rfl, Nat.le_of_ble_eq_true rfl⟩) hK hN (hZ.kept hS) hP (hP.sub [0, 1] rfl) (va_recv (q := (RX8, TX8, 38)) hK hP (ci := 8) (q0 := 0) rfl rfl) rfl hl.1 rfl (Nat.le_of_ble_eq_true rfl) dX8_frail_40 ⟨Nat.le_of_ble_eq_true rfl, Nat.le_of_ble_eq_true rfl⟩ (fun r_12 hr_12 => ?_)
          obtain ⟨g_13, g_14, hsr_12_0⟩ := hr_12
          have q2 := hsr_12_0
          rw [hg_11, hvi_4_0] at q2
          have q3 := fun _ : Unit => zFr_iff (l := gla) (n := nte.toInt) (t := i_4.toInt) (q1.1 (by omega)) (by omega) (by omega) (by omega)
          refine lv_if_ne (tgt := 49) hx hb dX8_frail_43 (by decide) (fun c_15 => ?_) (fun c_15 => ?_)
          · have fc_15 : r_12.toInt ≠ 0 := zf_ne c_15 rfl (by decide)
            refine lv_aload_n hx hb dX8_frail_49 rfl (lv_at hl 2 rfl) ?_
            refine va_get (D := D) (ci := 8) (v := .ref mla) (C := RX8) (T := TX8) (N := 38) hx hb hts hi_X8_frail_8 hown hK hP 0 rfl rfl 14 (by decide) (hts (.fieldLink RX8 38 "TheLiningsInItModel" "lacks" "[I") (List.mem_of_getElem? (i := 2) rfl)) (fun _ h9 => h9) rfl dX8_frail_50 ?_
            refine lv_iload_n hx hb dX8_frail_53 rfl (lv_at hl 0 rfl) ?_
            refine lv_iconst (v := 0) hx hb dX8_frail_54 (by decide) ?_
            refine va_iast hx hb hK hP hD hS 1 0 rfl rfl (zf_in (by omega) (by omega)) dX8_frail_55 (fun H locs hP hD hS => ?_)
            have hpg_16 : zRg (upd g_11 i_4.toNatClampNeg 0) (0) 1 := zRg_upd hpg_11 (by decide) (by decide)
            obtain ⟨g_16, hg_16⟩ : ∃ g : Nat → Int32, g = upd g_11 i_4.toNatClampNeg 0 := ⟨_, rfl⟩
            rw [← hg_16] at hP hD hpg_16
            have h9R := zRe (ws' := [(zMO m0 npu nte nat_ nde nto nse nhu nga nsd nfa mrf mki mpa mta mla msl mco mhe mso msi msh mce mca mwo mnu mte nba npl nen nnu nwr mwa mke mma mth mtr nra nik), (mla, .inl (cI, 40, .inl g_16))]) hP hD rfl
            clear hP hD
            obtain ⟨hP, hD⟩ := h9R
            obtain ⟨x_17, ex_17⟩ : ∃ y : Int32, y = i_4 + 1 := ⟨_, rfl⟩
            have qx_17 : x_17.toInt = i_4.toInt + 1 := dw_inc ex_17 fc_4
            refine lv_iinc (v := x_17) (lv' := [(2, .int x_17), (1, .int v_2), (0, .ref m0)]) hx hb dX8_frail_56 hl (k := 0) rfl ex_17.symm (by decide) rfl (fun ls hl => ?_)
            refine lv_goto (tgt := 4) hx hb dX8_frail_59 (by decide) ?_
            exact ih x_17 v_2 (g_16) _ _ _ (hP.sub [0, 1] rfl) (hD.sub [0, 1] (by decide) rfl) hS (lv_sub hl [0, 1, 2] rfl) hpg_16 hbv_2 (show (g_16 = gla) from by (rw [hg_16, hg_11, hvi_4_0]; funext j; simp only [upd]; have h7 : i_4.toNatClampNeg = i_4.toInt.toNat := rfl; by_cases c : j = i_4.toNatClampNeg; (rw [if_pos c, c, h7]; exact Int32.toInt_inj.mp (show (0 : Int32).toInt = (gla i_4.toInt.toNat).toInt by (have k0 : (0 : Int32).toInt = 0 := (by decide); omega))); (rw [if_neg c, if_neg c]))) (show ((zHd gla nte.toInt → (v_2 : Int32).toInt = zCf gla nte.toInt x_17.toInt.toNat) ∧ (¬ zHd gla nte.toInt → (v_2 : Int32).toInt = 0)) from by (refine ⟨fun hd => ?_, fun hd => absurd (q1.1 (by omega)) hd⟩; have z := hvi_4_1.1 hd; have e7 : ((i_4.toInt.toNat : Nat) : Int) = i_4.toInt := (by omega); rw [show x_17.toInt.toNat = i_4.toInt.toNat + 1 from by omega, zCf_s]; rw [if_neg (by rintro ⟨-, z⟩; rw [e7] at z; exact ((q3 ()).mpr z) (q2.1 (by omega)))]; omega)) (show (v_2 : Int32).toInt ≤ x_17.toInt from by omega) (show x_17.toInt ≤ nte.toInt from by omega) (dw_lo hloi_4 qx_17) (dw_hn hni_4 qx_17)
          · have fc_15 : r_12.toInt = 0 := zf_eq c_15 rfl (by decide)
            obtain ⟨x_18, ex_18⟩ : ∃ y : Int32, y = v_2 + 1 := ⟨_, rfl⟩
            have qx_18 : x_18.toInt = v_2.toInt + 1 := by rw [ex_18]; exact zf_add rfl (by decide) (by omega) (by omega)
            refine lv_iinc (v := x_18) (lv' := [(1, .int x_18), (2, .int i_4), (0, .ref m0)]) hx hb dX8_frail_46 hl (k := 1) rfl ex_18.symm (by decide) rfl (fun ls hl => ?_)
            refine lv_aload_n hx hb dX8_frail_49 rfl (lv_at hl 2 rfl) ?_
            refine va_get (D := D) (ci := 8) (v := .ref mla) (C := RX8) (T := TX8) (N := 38) hx hb hts hi_X8_frail_8 hown hK hP 0 rfl rfl 14 (by decide) (hts (.fieldLink RX8 38 "TheLiningsInItModel" "lacks" "[I") (List.mem_of_getElem? (i := 2) rfl)) (fun _ h9 => h9) rfl dX8_frail_50 ?_
            refine lv_iload_n hx hb dX8_frail_53 rfl (lv_at hl 1 rfl) ?_
            refine lv_iconst (v := 0) hx hb dX8_frail_54 (by decide) ?_
            refine va_iast hx hb hK hP hD hS 1 0 rfl rfl (zf_in (by omega) (by omega)) dX8_frail_55 (fun H locs hP hD hS => ?_)
            have hpg_19 : zRg (upd g_11 i_4.toNatClampNeg 0) (0) 1 := zRg_upd hpg_11 (by decide) (by decide)
            obtain ⟨g_19, hg_19⟩ : ∃ g : Nat → Int32, g = upd g_11 i_4.toNatClampNeg 0 := ⟨_, rfl⟩
            rw [← hg_19] at hP hD hpg_19
            have h9R := zRe (ws' := [(zMO m0 npu nte nat_ nde nto nse nhu nga nsd nfa mrf mki mpa mta mla msl mco mhe mso msi msh mce mca mwo mnu mte nba npl nen nnu nwr mwa mke mma mth mtr nra nik), (mla, .inl (cI, 40, .inl g_19))]) hP hD rfl
            clear hP hD
            obtain ⟨hP, hD⟩ := h9R
            obtain ⟨x_20, ex_20⟩ : ∃ y : Int32, y = i_4 + 1 := ⟨_, rfl⟩
            have qx_20 : x_20.toInt = i_4.toInt + 1 := dw_inc ex_20 fc_4
            refine lv_iinc (v := x_20) (lv' := [(2, .int x_20), (1, .int x_18), (0, .ref m0)]) hx hb dX8_frail_56 hl (k := 1) rfl ex_20.symm (by decide) rfl (fun ls hl => ?_)
            refine lv_goto (tgt := 4) hx hb dX8_frail_59 (by decide) ?_
            exact ih x_20 x_18 (g_19) _ _ _ (hP.sub [0, 1] rfl) (hD.sub [0, 1] (by decide) rfl) hS (lv_sub hl [0, 1, 2] rfl) hpg_19 ⟨by omega, by omega⟩ (show (g_19 = gla) from by (rw [hg_19, hg_11, hvi_4_0]; funext j; simp only [upd]; have h7 : i_4.toNatClampNeg = i_4.toInt.toNat := rfl; by_cases c : j = i_4.toNatClampNeg; (rw [if_pos c, c, h7]; exact Int32.toInt_inj.mp (show (0 : Int32).toInt = (gla i_4.toInt.toNat).toInt by (have k0 : (0 : Int32).toInt = 0 := (by decide); omega))); (rw [if_neg c, if_neg c]))) (show ((zHd gla nte.toInt → (x_18 : Int32).toInt = zCf gla nte.toInt x_20.toInt.toNat) ∧ (¬ zHd gla nte.toInt → (x_18 : Int32).toInt = 0)) from by (refine ⟨fun hd => ?_, fun hd => absurd (q1.1 (by omega)) hd⟩; have z := hvi_4_1.1 hd; have e7 : ((i_4.toInt.toNat : Nat) : Int) = i_4.toInt := (by omega); rw [show x_20.toInt.toNat = i_4.toInt.toNat + 1 from by omega, zCf_s]; rw [if_pos ⟨by omega, by (rw [e7]; exact (q3 ()).mp (q2.2 (by omega)))⟩]; omega)) (show (x_18 : Int32).toInt ≤ x_20.toInt from by omega) (show x_20.toInt ≤ nte.toInt from by omega) (dw_lo hloi_4 qx_20) (dw_hn hni_4 qx_20)
        · have fc_10 : x_9.toInt = 1 := zf_eq c_10 rfl (by decide)
          refine lv_goto (tgt := 56) hx hb dX8_frail_29 (by decide) ?_
          obtain ⟨x_21, ex_21⟩ : ∃ y : Int32, y = i_4 + 1 := ⟨_, rfl⟩
          have qx_21 : x_21.toInt = i_4.toInt + 1 := dw_inc ex_21 fc_4
          refine lv_iinc (v := x_21) (lv' := [(2, .int x_21), (1, .int v_2), (0, .ref m0)]) hx hb dX8_frail_56 hl (k := 0) rfl ex_21.symm (by decide) rfl (fun ls hl => ?_)
          refine lv_goto (tgt := 4) hx hb dX8_frail_59 (by decide) ?_
          exact ih x_21 v_2 (g_1) _ _ _ (hP.sub [0, 1] rfl) (hD.sub [0, 1] (by decide) rfl) hS (lv_sub hl [0, 1, 2] rfl) hpg_1 hbv_2 (show (g_1 = gla) from by exact hvi_4_0) (show ((zHd gla nte.toInt → (v_2 : Int32).toInt = zCf gla nte.toInt x_21.toInt.toNat) ∧ (¬ zHd gla nte.toInt → (v_2 : Int32).toInt = 0)) from by (refine ⟨fun hd => ?_, fun hd => absurd (q1.1 (by omega)) hd⟩; have z := hvi_4_1.1 hd; have e7 : ((i_4.toInt.toNat : Nat) : Int) = i_4.toInt := (by omega); rw [show x_21.toInt.toNat = i_4.toInt.toNat + 1 from by omega, zCf_s]; rw [if_neg (by rintro ⟨z, -⟩; omega)]; omega)) (show (v_2 : Int32).toInt ≤ x_21.toInt from by omega) (show x_21.toInt ≤ nte.toInt from by omega) (dw_lo hloi_4 qx_21) (dw_hn hni_4 qx_21)
set_option maxHeartbeats 4000000 in
set_option maxRecDepth 100000 in
theorem c_F_M_lacking (l : Launch) (D : va_G) (cI cJ cZ cP cS : ClassId) (po : zPool) (m0 mrf mki mpa mta mla msl mco mhe mso msi msh mce mca mwo mnu mte mwa mke mma mth mtr : Nat) (npu nte nat_ nde nto nse nhu nga nsd nfa nba npl nen nnu nwr nra nik : Int32) (gla : Nat → Int32) (hy0 : 0 ≤ npu.toInt) (hy1 : npu.toInt ≤ 8) (hy2 : 4 ≤ nte.toInt) (hy3 : nte.toInt ≤ 40) (hy4 : 0 ≤ nat_.toInt) (hy5 : nat_.toInt ≤ 40) (hy6 : 0 ≤ nde.toInt) (hy7 : nde.toInt ≤ 24) (hy8 : 0 ≤ nhu.toInt) (hy9 : nhu.toInt ≤ 9) (hy10 : 0 ≤ nra.toInt) (hy11 : nra.toInt ≤ 2000) (hy12 : 0 ≤ nik.toInt) (hy13 : nik.toInt ≤ 1) (hp_gla : zRg gla (0) 1) : Met l yX8_lacking wsX8_lacking ({ frames := 0, cells := 0, slots := 0, locals := 0 }) (va_Pc [.ref m0] (zR D (zKT cI cJ cZ cP cS) po [(zMO m0 npu nte nat_ nde nto nse nhu nga nsd nfa mrf mki mpa mta mla msl mco mhe mso msi msh mce mca mwo mnu mte nba npl nen nnu nwr mwa mke mma mth mtr nra nik), (mla, .inl (cI, 40, .inl gla))])) (vp_Si (fun r => (r.toInt = zCl gla nte.toInt.toNat))) 0 0 (fun _ => False) := by
  refine Met.ofW (cc := cX8_lacking) (maxL := 3) (ret := (some .int)) (by decide) rfl ?_
  intro p e s m args below meth c s₁ B hml hv
  obtain ⟨rfl, hP, hK, hN, hZ⟩ := hv
  have hx := B.exec
  have hb := B.bytes
  have hr := B.returns
  have hts := atoms_spec (ws := wsX8_lacking) B.pre
  have hown : s.vm.findClass RX8 = some m.cls := findClass_of_methodNamed B.named
  have hlocks := B.notSynchronized
  have hl := lv_entry ([.ref m0]) (n := 3) (Nat.le_of_ble_eq_true rfl)
  rw [lg_entry_eq]
  generalize (lg_sl ([.ref m0]) ++ List.replicate (3 - (lg_sl ([.ref m0])).length) Slot.unset).toArray = ls at hl ⊢
  replace hl : lv_has ls 3 [(0, .ref m0)] := hl
  refine lv_iconst (v := 0) hx hb dX8_lacking_0 (by decide) ?_
  refine lv_istore_n (lv' := [(1, .int 0), (0, .ref m0)]) hx hb dX8_lacking_1 rfl hl (by decide) rfl (fun ls hl => ?_)
  refine lv_iconst (v := 0) hx hb dX8_lacking_2 (by decide) ?_
  refine lv_istore_n (lv' := [(2, .int 0), (1, .int 0), (0, .ref m0)]) hx hb dX8_lacking_3 rfl hl (by decide) rfl (fun ls hl => ?_)
  obtain ⟨i_4, hi_4⟩ : ∃ i : Int32, i = 0 := ⟨_, rfl⟩
  replace hl : lv_has ls 3 [(2, .int i_4), (1, .int 0), (0, .ref m0)] := by rw [hi_4]; exact lv_sub hl [0, 1, 2] rfl
  have h1i_4 : i_4.toInt = 0 := by rw [hi_4]; decide
  obtain ⟨nfu, hni_4⟩ : ∃ nq9 : Nat, nte.toInt ≤ i_4.toInt + (nq9 : Int) := ⟨((nte.toInt : Int) - 0).toNat, by omega⟩
  have hloi_4 : 0 ≤ i_4.toInt := by omega
  obtain ⟨v_1, hv_1⟩ : ∃ g : Int32, g = 0 := ⟨_, rfl⟩
  replace hl : lv_has ls 3 [(2, .int i_4), (1, .int v_1), (0, .ref m0)] := by rw [hv_1]; exact hl
  have hbv_1 : 0 ≤ v_1.toInt ∧ v_1.toInt ≤ 40 := by rw [hv_1]; exact ⟨by decide, by decide⟩
  have hvi_4_0 : (v_1 : Int32).toInt = zCl gla i_4.toInt.toNat := by
    (try rw [hi_4]); (try rw [hv_1]); (rw [(show ((0 : Int32).toInt.toNat) = 0 from by decide)]; show (0 : Int32).toInt = 0; decide)
  have hvi_4_1 : (v_1 : Int32).toInt ≤ i_4.toInt := by
    (try rw [hi_4]); (try rw [hv_1]); first | omega | decide
  have hvi_4_2 : i_4.toInt ≤ nte.toInt := by
    (try rw [hi_4]); (try rw [hv_1]); (have k0 : (0 : Int32).toInt = 0 := (by decide); omega)
  clear h1i_4 hi_4 hv_1
  revert hni_4
  revert hloi_4
  revert hvi_4_2
  revert hvi_4_1
  revert hvi_4_0
  revert hbv_1
  revert hl
  revert ls
  revert v_1
  revert i_4
  induction nfu with
  | zero =>
    intro i_4 v_1 ls hl hbv_1 hvi_4_0 hvi_4_1 hvi_4_2 hloi_4 hni_4
    have hzi_4 : nte.toInt ≤ i_4.toInt := by omega
    refine lv_iload_n hx hb dX8_lacking_4 rfl (lv_at hl 0 rfl) ?_
    refine lv_aload_n hx hb dX8_lacking_5 rfl (lv_at hl 2 rfl) ?_
    refine va_get (D := D) (ci := 8) (v := .int nte) (C := RX8) (T := TX8) (N := 38) hx hb hts hi_X8_lacking_8 hown hK hP 0 rfl rfl 1 (by decide) (hts (.fieldLink RX8 7 "TheLiningsInItModel" "teeth" "I") (List.mem_of_getElem? (i := 1) rfl)) (fun _ h9 => h9) rfl dX8_lacking_6 ?_
    refine lv_icmp_ge (tgt := 27) hx hb dX8_lacking_9 (by decide) (fun c_2 => ?_) (fun c_2 => ?_)
    · have fc_2 : nte.toInt ≤ i_4.toInt := zf_le c_2 rfl rfl
      refine lv_iload_n hx hb dX8_lacking_27 rfl (lv_at hl 1 rfl) ?_
      exact W.iret (v := v_1) hx hb hr (fun t ht hW => ⟨v_1, rfl, (show (v_1 : Int32).toInt = zCl gla nte.toInt.toNat from by (have h9 : i_4.toInt.toNat = nte.toInt.toNat := (by omega); have z := hvi_4_0; rw [h9] at z; exact z)), ht⟩) (fun q hq => by cases hq) dX8_lacking_28
    · exfalso; have fc_2 : i_4.toInt < nte.toInt := zf_nle c_2 rfl rfl; omega
  | succ nfu ih =>
    intro i_4 v_1 ls hl hbv_1 hvi_4_0 hvi_4_1 hvi_4_2 hloi_4 hni_4
    refine lv_iload_n hx hb dX8_lacking_4 rfl (lv_at hl 0 rfl) ?_
    refine lv_aload_n hx hb dX8_lacking_5 rfl (lv_at hl 2 rfl) ?_
    refine va_get (D := D) (ci := 8) (v := .int nte) (C := RX8) (T := TX8) (N := 38) hx hb hts hi_X8_lacking_8 hown hK hP 0 rfl rfl 1 (by decide) (hts (.fieldLink RX8 7 "TheLiningsInItModel" "teeth" "I") (List.mem_of_getElem? (i := 1) rfl)) (fun _ h9 => h9) rfl dX8_lacking_6 ?_
    refine lv_icmp_ge (tgt := 27) hx hb dX8_lacking_9 (by decide) (fun c_3 => ?_) (fun c_3 => ?_)
    · have fc_3 : nte.toInt ≤ i_4.toInt := zf_le c_3 rfl rfl
      refine lv_iload_n hx hb dX8_lacking_27 rfl (lv_at hl 1 rfl) ?_
      exact W.iret (v := v_1) hx hb hr (fun t ht hW => ⟨v_1, rfl, (show (v_1 : Int32).toInt = zCl gla nte.toInt.toNat from by (have h9 : i_4.toInt.toNat = nte.toInt.toNat := (by omega); have z := hvi_4_0; rw [h9] at z; exact z)), ht⟩) (fun q hq => by cases hq) dX8_lacking_28
    · have fc_3 : i_4.toInt < nte.toInt := zf_nle c_3 rfl rfl
      refine lv_iload_n hx hb dX8_lacking_12 rfl (lv_at hl 1 rfl) ?_
      refine lv_aload_n hx hb dX8_lacking_13 rfl (lv_at hl 2 rfl) ?_
      refine va_get (D := D) (ci := 8) (v := .ref mla) (C := RX8) (T := TX8) (N := 38) hx hb hts hi_X8_lacking_8 hown hK hP 0 rfl rfl 14 (by decide) (hts (.fieldLink RX8 38 "TheLiningsInItModel" "lacks" "[I") (List.mem_of_getElem? (i := 2) rfl)) (fun _ h9 => h9) rfl dX8_lacking_14 ?_
      refine lv_iload_n hx hb dX8_lacking_17 rfl (lv_at hl 0 rfl) ?_
      refine va_iald hx hb hK hP 1 0 rfl rfl (zf_in (by omega) (by omega)) dX8_lacking_18 ?_
      refine lv_topi (fun x_4 ex_4 => ?_)
      have bx_4 : 0 ≤ x_4.toInt ∧ x_4.toInt ≤ 1 := by rw [ex_4]; exact hp_gla _
      refine lv_iadd hx hb dX8_lacking_19 ?_
      refine lv_topi (fun x_5 ex_5 => ?_)
      have qx_5 : x_5.toInt = v_1.toInt + x_4.toInt := by rw [ex_5]; exact zf_add rfl rfl (by omega) (by omega)
      refine lv_istore_n (lv' := [(1, .int x_5), (2, .int i_4), (0, .ref m0)]) hx hb dX8_lacking_20 rfl hl (by decide) rfl (fun ls hl => ?_)
      obtain ⟨x_6, ex_6⟩ : ∃ y : Int32, y = i_4 + 1 := ⟨_, rfl⟩
      have qx_6 : x_6.toInt = i_4.toInt + 1 := dw_inc ex_6 fc_3
      refine lv_iinc (v := x_6) (lv' := [(2, .int x_6), (1, .int x_5), (0, .ref m0)]) hx hb dX8_lacking_21 hl (k := 1) rfl ex_6.symm (by decide) rfl (fun ls hl => ?_)
      refine lv_goto (tgt := 4) hx hb dX8_lacking_24 (by decide) ?_
      exact ih x_6 x_5 _ (lv_sub hl [0, 1, 2] rfl) ⟨by omega, by omega⟩ (show (x_5 : Int32).toInt = zCl gla x_6.toInt.toNat from by (have h8 : (gla i_4.toInt.toNat).toInt = x_4.toInt := (by rw [ex_4]; rfl); rw [show x_6.toInt.toNat = i_4.toInt.toNat + 1 from by omega, zCl_s]; omega)) (show (x_5 : Int32).toInt ≤ x_6.toInt from by omega) (show x_6.toInt ≤ nte.toInt from by omega) (dw_lo hloi_4 qx_6) (dw_hn hni_4 qx_6)
set_option maxHeartbeats 4000000 in
set_option maxRecDepth 100000 in
theorem c_F_M_doesCatch (l : Launch) (D : va_G) (cI cJ cZ cP cS : ClassId) (po : zPool) (m0 mrf mki mpa mta mla msl mco mhe mso msi msh mce mca mwo mnu mte mwa mke mma mth mtr : Nat) (npu nte nat_ nde nto nse nhu nga nsd nfa nba npl nen nnu nwr nra nik : Int32) (gla gsl : Nat → Int32) (t_ : Int32) (hy0 : 0 ≤ npu.toInt) (hy1 : npu.toInt ≤ 8) (hy2 : 4 ≤ nte.toInt) (hy3 : nte.toInt ≤ 40) (hy4 : 0 ≤ nat_.toInt) (hy5 : nat_.toInt ≤ 40) (hy6 : 0 ≤ nde.toInt) (hy7 : nde.toInt ≤ 24) (hy8 : 0 ≤ nhu.toInt) (hy9 : nhu.toInt ≤ 9) (hy10 : 0 ≤ nra.toInt) (hy11 : nra.toInt ≤ 2000) (hy12 : 0 ≤ nik.toInt) (hy13 : nik.toInt ≤ 1) (hy14 : 0 ≤ t_.toInt) (hy15 : t_.toInt ≤ 39) (hp_gla : zRg gla (0) 1) (hp_gsl : zRg gsl (0) 9) : Met l yX8_doesCatch wsX8_doesCatch ({ frames := 0, cells := 0, slots := 0, locals := 0 }) (va_Pc [.ref m0, .int t_] (zR D (zKT cI cJ cZ cP cS) po [(zMO m0 npu nte nat_ nde nto nse nhu nga nsd nfa mrf mki mpa mta mla msl mco mhe mso msi msh mce mca mwo mnu mte nba npl nen nnu nwr mwa mke mma mth mtr nra nik), (mla, .inl (cI, 40, .inl gla)), (msl, .inl (cI, 40, .inl gsl))])) (vp_Si (fun r => 0 ≤ r.toInt ∧ r.toInt ≤ 1 ∧ ((r.toInt = 1 → zCa gla gsl nga.toInt t_.toInt) ∧ (r.toInt = 0 → ¬ zCa gla gsl nga.toInt t_.toInt)))) 0 0 (fun _ => False) := by
  refine Met.ofW (cc := cX8_doesCatch) (maxL := 2) (ret := (some .boolean)) (by decide) rfl ?_
  intro p e s m args below meth c s₁ B hml hv
  obtain ⟨rfl, hP, hK, hN, hZ⟩ := hv
  have hx := B.exec
  have hb := B.bytes
  have hr := B.returns
  have hts := atoms_spec (ws := wsX8_doesCatch) B.pre
  have hown : s.vm.findClass RX8 = some m.cls := findClass_of_methodNamed B.named
  have hlocks := B.notSynchronized
  have hl := lv_entry ([.ref m0, .int t_]) (n := 2) (Nat.le_of_ble_eq_true rfl)
  rw [lg_entry_eq]
  generalize (lg_sl ([.ref m0, .int t_]) ++ List.replicate (2 - (lg_sl ([.ref m0, .int t_])).length) Slot.unset).toArray = ls at hl ⊢
  replace hl : lv_has ls 2 [(0, .ref m0), (1, .int t_)] := hl
  refine lv_aload_n hx hb dX8_doesCatch_0 rfl (lv_at hl 0 rfl) ?_
  refine va_get (D := D) (ci := 8) (v := .ref mla) (C := RX8) (T := TX8) (N := 38) hx hb hts hi_X8_doesCatch_8 hown hK hP 0 rfl rfl 14 (by decide) (hts (.fieldLink RX8 38 "TheLiningsInItModel" "lacks" "[I") (List.mem_of_getElem? (i := 1) rfl)) (fun _ h9 => h9) rfl dX8_doesCatch_1 ?_
  refine lv_iload_n hx hb dX8_doesCatch_4 rfl (lv_at hl 1 rfl) ?_
  refine va_iald hx hb hK hP 1 0 rfl rfl (zf_in (by omega) (by omega)) dX8_doesCatch_5 ?_
  refine lv_topi (fun x_1 ex_1 => ?_)
  have bx_1 : 0 ≤ x_1.toInt ∧ x_1.toInt ≤ 1 := by rw [ex_1]; exact hp_gla _
  refine lv_if_ne (tgt := 26) hx hb dX8_doesCatch_6 (by decide) (fun c_2 => ?_) (fun c_2 => ?_)
  · have fc_2 : x_1.toInt ≠ 0 := zf_ne c_2 rfl (by decide)
    refine lv_iconst (v := 0) hx hb dX8_doesCatch_26 (by decide) ?_
    exact W.zret (v := 0) hx hb hr (by decide) (fun t ht hW => ⟨0, rfl, ⟨by decide, by decide, (show ((0 : Int32).toInt = 1 → zCa gla gsl nga.toInt t_.toInt) ∧ ((0 : Int32).toInt = 0 → ¬ zCa gla gsl nga.toInt t_.toInt) from by (have h8 : (gla t_.toInt.toNat).toInt = x_1.toInt := (by rw [ex_1]; rfl); exact ⟨fun h => absurd h (by decide), fun _ => fun z => by (obtain ⟨z1, z2⟩ := z; omega)⟩))⟩, ht⟩) (fun q hq => by cases hq) dX8_doesCatch_27
  · have fc_2 : x_1.toInt = 0 := zf_eq c_2 rfl (by decide)
    refine lv_aload_n hx hb dX8_doesCatch_9 rfl (lv_at hl 0 rfl) ?_
    refine va_get (D := D) (ci := 8) (v := .ref msl) (C := RX8) (T := TX8) (N := 38) hx hb hts hi_X8_doesCatch_8 hown hK hP 0 rfl rfl 15 (by decide) (hts (.fieldLink RX8 41 "TheLiningsInItModel" "slack" "[I") (List.mem_of_getElem? (i := 2) rfl)) (fun _ h9 => h9) rfl dX8_doesCatch_10 ?_
    refine lv_iload_n hx hb dX8_doesCatch_13 rfl (lv_at hl 1 rfl) ?_
    refine va_iald hx hb hK hP 2 0 rfl rfl (zf_in (by omega) (by omega)) dX8_doesCatch_14 ?_
    refine lv_topi (fun x_3 ex_3 => ?_)
    have bx_3 : 0 ≤ x_3.toInt ∧ x_3.toInt ≤ 9 := by rw [ex_3]; exact hp_gsl _
    refine lv_aload_n hx hb dX8_doesCatch_15 rfl (lv_at hl 0 rfl) ?_
    refine va_get (D := D) (ci := 8) (v := .int nga) (C := RX8) (T := TX8) (N := 38) hx hb hts hi_X8_doesCatch_8 hown hK hP 0 rfl rfl 7 (by decide) (hts (.fieldLink RX8 16 "TheLiningsInItModel" "gap" "I") (List.mem_of_getElem? (i := 3) rfl)) (fun _ h9 => h9) rfl dX8_doesCatch_16 ?_
    refine lv_icmp_lt (tgt := 26) hx hb dX8_doesCatch_19 (by decide) (fun c_4 => ?_) (fun c_4 => ?_)
    · have fc_4 : x_3.toInt < nga.toInt := zf_lt c_4 rfl rfl
      refine lv_iconst (v := 0) hx hb dX8_doesCatch_26 (by decide) ?_
      exact W.zret (v := 0) hx hb hr (by decide) (fun t ht hW => ⟨0, rfl, ⟨by decide, by decide, (show ((0 : Int32).toInt = 1 → zCa gla gsl nga.toInt t_.toInt) ∧ ((0 : Int32).toInt = 0 → ¬ zCa gla gsl nga.toInt t_.toInt) from by (have h8 : (gla t_.toInt.toNat).toInt = x_1.toInt := (by rw [ex_1]; rfl); have h9 : (gsl t_.toInt.toNat).toInt = x_3.toInt := (by rw [ex_3]; rfl); exact ⟨fun h => absurd h (by decide), fun _ => fun z => by (obtain ⟨z1, z2⟩ := z; omega)⟩))⟩, ht⟩) (fun q hq => by cases hq) dX8_doesCatch_27
    · have fc_4 : nga.toInt ≤ x_3.toInt := zf_nlt c_4 rfl rfl
      refine lv_iconst (v := 1) hx hb dX8_doesCatch_22 (by decide) ?_
      refine lv_goto (tgt := 27) hx hb dX8_doesCatch_23 (by decide) ?_
      exact W.zret (v := 1) hx hb hr (by decide) (fun t ht hW => ⟨1, rfl, ⟨by decide, by decide, (show ((1 : Int32).toInt = 1 → zCa gla gsl nga.toInt t_.toInt) ∧ ((1 : Int32).toInt = 0 → ¬ zCa gla gsl nga.toInt t_.toInt) from by (have h8 : (gla t_.toInt.toNat).toInt = x_1.toInt := (by rw [ex_1]; rfl); have h9 : (gsl t_.toInt.toNat).toInt = x_3.toInt := (by rw [ex_3]; rfl); exact ⟨fun _ => ⟨by omega, by omega⟩, fun h => absurd h (by decide)⟩))⟩, ht⟩) (fun q hq => by cases hq) dX8_doesCatch_27
set_option maxHeartbeats 4000000 in
set_option maxRecDepth 100000 in
theorem c_F_M_catches (l : Launch) (D : va_G) (cI cJ cZ cP cS : ClassId) (po : zPool) (m0 mrf mki mpa mta mla msl mco mhe mso msi msh mce mca mwo mnu mte mwa mke mma mth mtr : Nat) (npu nte nat_ nde nto nse nhu nga nsd nfa nba npl nen nnu nwr nra nik : Int32) (grf gla gsl : Nat → Int32) (i : Int32) (hy0 : 0 ≤ npu.toInt) (hy1 : npu.toInt ≤ 8) (hy2 : 4 ≤ nte.toInt) (hy3 : nte.toInt ≤ 40) (hy4 : 0 ≤ nat_.toInt) (hy5 : nat_.toInt ≤ 40) (hy6 : 0 ≤ nde.toInt) (hy7 : nde.toInt ≤ 24) (hy8 : 0 ≤ nhu.toInt) (hy9 : nhu.toInt ≤ 9) (hy10 : 0 ≤ nra.toInt) (hy11 : nra.toInt ≤ 2000) (hy12 : 0 ≤ nik.toInt) (hy13 : nik.toInt ≤ 1) (hp_gla : zRg gla (0) 1) (hp_gsl : zRg gsl (0) 9) (hpz : Nat) : Met l yX8_catches wsX8_catches ({ frames := 1, cells := 0, slots := 0, locals := 21 }) (va_Pc [.ref m0, .int i] (zW D (zKT cI cJ cZ cP cS) po [(zMO m0 npu nte nat_ nde nto nse nhu nga nsd nfa mrf mki mpa mta mla msl mco mhe mso msi msh mce mca mwo mnu mte nba npl nen nnu nwr mwa mke mma mth mtr nra nik), (mrf, .inl (cI, 8, .inl grf)), (mla, .inl (cI, 40, .inl gla)), (msl, .inl (cI, 40, .inl gsl))] hpz)) (va_Qi (fun (r : Int32) (grf2 : (Nat → Int32)) => ((i.toInt < -1 → r.toInt = -5) ∧ (-1 ≤ i.toInt → ∃ q : Int, zCat gla gsl nga.toInt nte.toInt i.toInt q ∧ r.toInt = (if q = -1 then -5 else q))) ∧ (True)) (zB D [(zMO m0 npu nte nat_ nde nto nse nhu nga nsd nfa mrf mki mpa mta mla msl mco mhe mso msi msh mce mca mwo mnu mte nba npl nen nnu nwr mwa mke mma mth mtr nra nik), (mrf, .inl (cI, 8, .inl grf)), (mla, .inl (cI, 40, .inl gla)), (msl, .inl (cI, 40, .inl gsl))] hpz (fun (grf2 : Nat → Int32) => [(zMO m0 npu nte nat_ nde nto nse nhu nga nsd nfa mrf mki mpa mta mla msl mco mhe mso msi msh mce mca mwo mnu mte nba npl nen nnu nwr mwa mke mma mth mtr nra nik), (mrf, .inl (cI, 8, .inl grf2)), (mla, .inl (cI, 40, .inl gla)), (msl, .inl (cI, 40, .inl gsl))])) (va_A [(zMO m0 npu nte nat_ nde nto nse nhu nga nsd nfa mrf mki mpa mta mla msl mco mhe mso msi msh mce mca mwo mnu mte nba npl nen nnu nwr mwa mke mma mth mtr nra nik), (mrf, .inl (cI, 8, .inl grf)), (mla, .inl (cI, 40, .inl gla)), (msl, .inl (cI, 40, .inl gsl))] hpz)) 0 0 (va_A [(zMO m0 npu nte nat_ nde nto nse nhu nga nsd nfa mrf mki mpa mta mla msl mco mhe mso msi msh mce mca mwo mnu mte nba npl nen nnu nwr mwa mke mma mth mtr nra nik), (mrf, .inl (cI, 8, .inl grf)), (mla, .inl (cI, 40, .inl gla)), (msl, .inl (cI, 40, .inl gsl))] hpz) := by
  refine Met.ofW (cc := cX8_catches) (maxL := 4) (ret := (some .int)) (by decide) rfl ?_
  intro p e s m args below meth c s₁ B hml hv
  obtain ⟨rfl, hsz, hP, hK, hD0, hN, hZ⟩ := hv
  have hx := B.exec
  have hb := B.bytes
  have hr := B.returns
  have hts := atoms_spec (ws := wsX8_catches) B.pre
  have hown : s.vm.findClass RX8 = some m.cls := findClass_of_methodNamed B.named
  have hlocks := B.notSynchronized
  subst hsz
  have hD := hD0.self (sz := s.heap.size)
  have hA := zA_of hD
  have hl := lv_entry ([.ref m0, .int i]) (n := 4) (Nat.le_of_ble_eq_true rfl)
  rw [lg_entry_eq]
  generalize (lg_sl ([.ref m0, .int i]) ++ List.replicate (4 - (lg_sl ([.ref m0, .int i])).length) Slot.unset).toArray = ls at hl ⊢
  replace hl : lv_has ls 4 [(0, .ref m0), (1, .int i)] := hl
  refine zw_begin hP hD (fun H locs hP1 hS => ?_)
  clear hP
  have hP := hP1
  clear hP1
  refine lv_iload_n hx hb dX8_catches_0 rfl (lv_at hl 1 rfl) ?_
  refine lv_iconst (v := (-1)) hx hb dX8_catches_1 (by decide) ?_
  refine lv_icmp_ge (tgt := 12) hx hb dX8_catches_2 (by decide) (fun c_1 => ?_) (fun c_1 => ?_)
  · have fc_1 : (-1) ≤ i.toInt := zf_le c_1 (by decide) rfl
    refine lv_iconst (v := 0) hx hb dX8_catches_12 (by decide) ?_
    refine lv_istore_n (lv' := [(2, .int 0), (0, .ref m0), (1, .int i)]) hx hb dX8_catches_13 rfl hl (by decide) rfl (fun ls hl => ?_)
    refine lv_iconst (v := 0) hx hb dX8_catches_14 (by decide) ?_
    refine lv_istore_n (lv' := [(3, .int 0), (2, .int 0), (0, .ref m0), (1, .int i)]) hx hb dX8_catches_15 rfl hl (by decide) rfl (fun ls hl => ?_)
    obtain ⟨i_16, hi_16⟩ : ∃ i : Int32, i = 0 := ⟨_, rfl⟩
    replace hl : lv_has ls 4 [(3, .int i_16), (2, .int 0), (0, .ref m0), (1, .int i)] := by rw [hi_16]; exact lv_sub hl [0, 1, 2, 3] rfl
    have h1i_16 : i_16.toInt = 0 := by rw [hi_16]; decide
    obtain ⟨nfu, hni_16⟩ : ∃ nq9 : Nat, nte.toInt ≤ i_16.toInt + (nq9 : Int) := ⟨((nte.toInt : Int) - 0).toNat, by omega⟩
    have hloi_16 : 0 ≤ i_16.toInt := by omega
    obtain ⟨v_2, hv_2⟩ : ∃ g : Int32, g = 0 := ⟨_, rfl⟩
    replace hl : lv_has ls 4 [(3, .int i_16), (2, .int v_2), (0, .ref m0), (1, .int i)] := by rw [hv_2]; exact hl
    have hbv_2 : 0 ≤ v_2.toInt ∧ v_2.toInt ≤ 40 := by rw [hv_2]; exact ⟨by decide, by decide⟩
    have hvi_16_0 : (v_2 : Int32).toInt = zCn gla gsl nga.toInt i_16.toInt.toNat := by
      (try rw [hi_16]); (try rw [hv_2]); (rw [(show ((0 : Int32).toInt.toNat) = 0 from by decide)]; show (0 : Int32).toInt = 0; decide)
    have hvi_16_1 : (∀ t : Nat, (t : Int) < i_16.toInt → zCa gla gsl nga.toInt (t : Int) → zCn gla gsl nga.toInt t ≠ i.toInt) := by
      (try rw [hi_16]); (try rw [hv_2]); (intro t h1 h2; exfalso; have k0 : (0 : Int32).toInt = 0 := (by decide); omega)
    have hvi_16_2 : (v_2 : Int32).toInt ≤ i_16.toInt := by
      (try rw [hi_16]); (try rw [hv_2]); first | omega | decide
    have hvi_16_3 : i_16.toInt ≤ nte.toInt := by
      (try rw [hi_16]); (try rw [hv_2]); (have k0 : (0 : Int32).toInt = 0 := (by decide); omega)
    clear h1i_16 hi_16 hv_2
    skip
    revert hni_16
    revert hloi_16
    revert hvi_16_3
    revert hvi_16_2
    revert hvi_16_1
    revert hvi_16_0
    revert hbv_2
    revert hl
    revert hS
    revert hD
    revert hP
    revert ls
    revert locs
    revert H
    revert v_2
    revert i_16
    induction nfu with
    | zero =>
      intro i_16 v_2 H locs ls hP hD hS hl hbv_2 hvi_16_0 hvi_16_1 hvi_16_2 hvi_16_3 hloi_16 hni_16
      have hzi_16 : nte.toInt ≤ i_16.toInt := by omega
      refine lv_iload_n hx hb dX8_catches_16 rfl (lv_at hl 0 rfl) ?_
      refine lv_aload_n hx hb dX8_catches_17 rfl (lv_at hl 2 rfl) ?_
      refine va_get (D := D) (ci := 8) (v := .int nte) (C := RX8) (T := TX8) (N := 38) hx hb hts hi_X8_catches_8 hown hK hP 0 rfl rfl 1 (by decide) (hts (.fieldLink RX8 7 "TheLiningsInItModel" "teeth" "I") (List.mem_of_getElem? (i := 1) rfl)) (fun _ h9 => h9) rfl dX8_catches_18 ?_
      refine lv_icmp_ge (tgt := 51) hx hb dX8_catches_21 (by decide) (fun c_3 => ?_) (fun c_3 => ?_)
      · have fc_3 : nte.toInt ≤ i_16.toInt := zf_le c_3 rfl rfl
        refine lv_iload_n hx hb dX8_catches_51 rfl (lv_at hl 3 rfl) ?_
        refine lv_iconst (v := (-1)) hx hb dX8_catches_52 (by decide) ?_
        refine lv_icmp_ne (tgt := 60) hx hb dX8_catches_53 (by decide) (fun c_4 => ?_) (fun c_4 => ?_)
        · have fc_4 : i.toInt ≠ (-1) := zf_ne c_4 rfl (by decide)
          refine lv_aload_n hx hb dX8_catches_60 rfl (lv_at hl 2 rfl) ?_
          refine lv_bipush (v := (-5)) hx hb dX8_catches_61 (by decide) ?_
          skip
          refine zw_V (As := [.int (-5)]) (rest := []) (wr := [(mla, .inl (cI, 40, .inl gla)), (msl, .inl (cI, 40, .inl gsl))]) ⟨hx, hb, hml, hown, hts⟩ (c_M_no_5 l D cI cJ cZ cP cS po m0 mrf mki mpa mta mla msl mco mhe mso msi msh mce mca mwo mnu mte mwa mke mma mth mtr (npu) (nte) (nat_) (nde) (nto) (nse) (nhu) (nga) (nsd) (nfa) (nba) (npl) (nen) (nnu) (nwr) (nra) (nik) grf hy0 hy1 hy2 hy3 hy4 hy5 hy6 hy7 hy8 hy9 hy10 hy11 hy12 hy13 H.size) (cwV 1 hts gX8_catches_X8_no rfl rfl rfl ⟨rfl, dh_X8_no⟩ ⟨Nat.le_of_ble_eq_true rfl, Nat.le_of_ble_eq_true rfl⟩) hK hN (hZ.kept hS) hP hD hS hA [0, 1] [2, 3] rfl rfl (by decide) (by decide) (by decide) (va_recv (q := (RX8, TX8, 38)) hK hP (ci := 8) (q0 := 0) rfl rfl) rfl hl.1 rfl (Nat.le_of_ble_eq_true rfl) dX8_catches_63 ⟨Nat.le_of_ble_eq_true rfl, Nat.le_of_ble_eq_true rfl⟩ (fun r_5 u_6 H locs hr_5 hP hD hS => ?_)
          obtain ⟨q_7, rfl⟩ : ∃ z, z = u_6 := ⟨_, rfl⟩
          have h9R := zRe (ws' := [(mla, .inl (cI, 40, .inl gla)), (msl, .inl (cI, 40, .inl gsl)), (zMO m0 npu nte nat_ nde nto nse nhu nga nsd nfa mrf mki mpa mta mla msl mco mhe mso msi msh mce mca mwo mnu mte nba npl nen nnu nwr mwa mke mma mth mtr nra nik), (mrf, .inl (cI, 8, .inl q_7))]) hP hD rfl
          clear hP hD
          obtain ⟨hP, hD⟩ := h9R
          obtain rfl := hr_5
          exact W.iret (v := (-5)) hx hb hr (fun t ht hW => ⟨⟨(-5), q_7, rfl, ⟨(show (i.toInt < -1 → ((-5) : Int32).toInt = -5) ∧ (-1 ≤ i.toInt → ∃ q : Int, zCat gla gsl nga.toInt nte.toInt i.toInt q ∧ ((-5) : Int32).toInt = (if q = -1 then -5 else q)) from by (have km : ((-5) : Int32).toInt = -5 := (by decide); refine ⟨fun h => by (exfalso; omega), fun _ => ?_⟩; have h9 : i_16.toInt.toNat = nte.toInt.toNat := (by omega); have z := hvi_16_0; rw [h9] at z; first | (refine ⟨(-5).toInt, Or.inr ⟨fun t h1 h2 => hvi_16_1 t (by omega) h2, ?_⟩, ?_⟩; (rw [if_pos (by omega)]; exact z); (rw [if_neg (by omega)])) | (refine ⟨-1, Or.inr ⟨fun t h1 h2 => hvi_16_1 t (by omega) h2, ?_⟩, ?_⟩; (rw [if_neg (by omega)]); (rw [if_pos rfl]; first | exact km | omega)))), trivial⟩, zRet ht hP hD [2, 3, 0, 1] (by decide) rfl⟩, hS.F ht⟩) hS.2.2 dX8_catches_66
        · have fc_4 : i.toInt = (-1) := zf_eq c_4 rfl (by decide)
          refine lv_iload_n hx hb dX8_catches_56 rfl (lv_at hl 1 rfl) ?_
          refine lv_goto (tgt := 66) hx hb dX8_catches_57 (by decide) ?_
          exact W.iret (v := v_2) hx hb hr (fun t ht hW => ⟨⟨v_2, grf, rfl, ⟨(show (i.toInt < -1 → (v_2 : Int32).toInt = -5) ∧ (-1 ≤ i.toInt → ∃ q : Int, zCat gla gsl nga.toInt nte.toInt i.toInt q ∧ (v_2 : Int32).toInt = (if q = -1 then -5 else q)) from by (have km : ((-5) : Int32).toInt = -5 := (by decide); refine ⟨fun h => by (exfalso; omega), fun _ => ?_⟩; have h9 : i_16.toInt.toNat = nte.toInt.toNat := (by omega); have z := hvi_16_0; rw [h9] at z; first | (refine ⟨v_2.toInt, Or.inr ⟨fun t h1 h2 => hvi_16_1 t (by omega) h2, ?_⟩, ?_⟩; (rw [if_pos (by omega)]; exact z); (rw [if_neg (by omega)])) | (refine ⟨-1, Or.inr ⟨fun t h1 h2 => hvi_16_1 t (by omega) h2, ?_⟩, ?_⟩; (rw [if_neg (by omega)]); (rw [if_pos rfl]; first | exact km | omega)))), trivial⟩, zRet ht hP hD [0, 1, 2, 3] (by decide) rfl⟩, hS.F ht⟩) hS.2.2 dX8_catches_66
      · exfalso; have fc_3 : i_16.toInt < nte.toInt := zf_nle c_3 rfl rfl; omega
    | succ nfu ih =>
      intro i_16 v_2 H locs ls hP hD hS hl hbv_2 hvi_16_0 hvi_16_1 hvi_16_2 hvi_16_3 hloi_16 hni_16
      refine lv_iload_n hx hb dX8_catches_16 rfl (lv_at hl 0 rfl) ?_
      refine lv_aload_n hx hb dX8_catches_17 rfl (lv_at hl 2 rfl) ?_
      refine va_get (D := D) (ci := 8) (v := .int nte) (C := RX8) (T := TX8) (N := 38) hx hb hts hi_X8_catches_8 hown hK hP 0 rfl rfl 1 (by decide) (hts (.fieldLink RX8 7 "TheLiningsInItModel" "teeth" "I") (List.mem_of_getElem? (i := 1) rfl)) (fun _ h9 => h9) rfl dX8_catches_18 ?_
      refine lv_icmp_ge (tgt := 51) hx hb dX8_catches_21 (by decide) (fun c_8 => ?_) (fun c_8 => ?_)
      · have fc_8 : nte.toInt ≤ i_16.toInt := zf_le c_8 rfl rfl
        refine lv_iload_n hx hb dX8_catches_51 rfl (lv_at hl 3 rfl) ?_
        refine lv_iconst (v := (-1)) hx hb dX8_catches_52 (by decide) ?_
        refine lv_icmp_ne (tgt := 60) hx hb dX8_catches_53 (by decide) (fun c_9 => ?_) (fun c_9 => ?_)
        · have fc_9 : i.toInt ≠ (-1) := zf_ne c_9 rfl (by decide)
          refine lv_aload_n hx hb dX8_catches_60 rfl (lv_at hl 2 rfl) ?_
          refine lv_bipush (v := (-5)) hx hb dX8_catches_61 (by decide) ?_
          skip
          refine zw_V (As := [.int (-5)]) (rest := []) (wr := [(mla, .inl (cI, 40, .inl gla)), (msl, .inl (cI, 40, .inl gsl))]) ⟨hx, hb, hml, hown, hts⟩ (c_M_no_5 l D cI cJ cZ cP cS po m0 mrf mki mpa mta mla msl mco mhe mso msi msh mce mca mwo mnu mte mwa mke mma mth mtr (npu) (nte) (nat_) (nde) (nto) (nse) (nhu) (nga) (nsd) (nfa) (nba) (npl) (nen) (nnu) (nwr) (nra) (nik) grf hy0 hy1 hy2 hy3 hy4 hy5 hy6 hy7 hy8 hy9 hy10 hy11 hy12 hy13 H.size) (cwV 1 hts gX8_catches_X8_no rfl rfl rfl ⟨rfl, dh_X8_no⟩ ⟨Nat.le_of_ble_eq_true rfl, Nat.le_of_ble_eq_true rfl⟩) hK hN (hZ.kept hS) hP hD hS hA [0, 1] [2, 3] rfl rfl (by decide) (by decide) (by decide) (va_recv (q := (RX8, TX8, 38)) hK hP (ci := 8) (q0 := 0) rfl rfl) rfl hl.1 rfl (Nat.le_of_ble_eq_true rfl) dX8_catches_63 ⟨Nat.le_of_ble_eq_true rfl, Nat.le_of_ble_eq_true rfl⟩ (fun r_10 u_11 H locs hr_10 hP hD hS => ?_)
          obtain ⟨q_12, rfl⟩ : ∃ z, z = u_11 := ⟨_, rfl⟩
          have h9R := zRe (ws' := [(mla, .inl (cI, 40, .inl gla)), (msl, .inl (cI, 40, .inl gsl)), (zMO m0 npu nte nat_ nde nto nse nhu nga nsd nfa mrf mki mpa mta mla msl mco mhe mso msi msh mce mca mwo mnu mte nba npl nen nnu nwr mwa mke mma mth mtr nra nik), (mrf, .inl (cI, 8, .inl q_12))]) hP hD rfl
          clear hP hD
          obtain ⟨hP, hD⟩ := h9R
          obtain rfl := hr_10
          exact W.iret (v := (-5)) hx hb hr (fun t ht hW => ⟨⟨(-5), q_12, rfl, ⟨(show (i.toInt < -1 → ((-5) : Int32).toInt = -5) ∧ (-1 ≤ i.toInt → ∃ q : Int, zCat gla gsl nga.toInt nte.toInt i.toInt q ∧ ((-5) : Int32).toInt = (if q = -1 then -5 else q)) from by (have km : ((-5) : Int32).toInt = -5 := (by decide); refine ⟨fun h => by (exfalso; omega), fun _ => ?_⟩; have h9 : i_16.toInt.toNat = nte.toInt.toNat := (by omega); have z := hvi_16_0; rw [h9] at z; first | (refine ⟨(-5).toInt, Or.inr ⟨fun t h1 h2 => hvi_16_1 t (by omega) h2, ?_⟩, ?_⟩; (rw [if_pos (by omega)]; exact z); (rw [if_neg (by omega)])) | (refine ⟨-1, Or.inr ⟨fun t h1 h2 => hvi_16_1 t (by omega) h2, ?_⟩, ?_⟩; (rw [if_neg (by omega)]); (rw [if_pos rfl]; first | exact km | omega)))), trivial⟩, zRet ht hP hD [2, 3, 0, 1] (by decide) rfl⟩, hS.F ht⟩) hS.2.2 dX8_catches_66
        · have fc_9 : i.toInt = (-1) := zf_eq c_9 rfl (by decide)
          refine lv_iload_n hx hb dX8_catches_56 rfl (lv_at hl 1 rfl) ?_
          refine lv_goto (tgt := 66) hx hb dX8_catches_57 (by decide) ?_
          exact W.iret (v := v_2) hx hb hr (fun t ht hW => ⟨⟨v_2, grf, rfl, ⟨(show (i.toInt < -1 → (v_2 : Int32).toInt = -5) ∧ (-1 ≤ i.toInt → ∃ q : Int, zCat gla gsl nga.toInt nte.toInt i.toInt q ∧ (v_2 : Int32).toInt = (if q = -1 then -5 else q)) from by (have km : ((-5) : Int32).toInt = -5 := (by decide); refine ⟨fun h => by (exfalso; omega), fun _ => ?_⟩; have h9 : i_16.toInt.toNat = nte.toInt.toNat := (by omega); have z := hvi_16_0; rw [h9] at z; first | (refine ⟨v_2.toInt, Or.inr ⟨fun t h1 h2 => hvi_16_1 t (by omega) h2, ?_⟩, ?_⟩; (rw [if_pos (by omega)]; exact z); (rw [if_neg (by omega)])) | (refine ⟨-1, Or.inr ⟨fun t h1 h2 => hvi_16_1 t (by omega) h2, ?_⟩, ?_⟩; (rw [if_neg (by omega)]); (rw [if_pos rfl]; first | exact km | omega)))), trivial⟩, zRet ht hP hD [0, 1, 2, 3] (by decide) rfl⟩, hS.F ht⟩) hS.2.2 dX8_catches_66
      · have fc_8 : i_16.toInt < nte.toInt := zf_nle c_8 rfl rfl
        refine lv_aload_n hx hb dX8_catches_24 rfl (lv_at hl 2 rfl) ?_
        refine lv_iload_n hx hb dX8_catches_25 rfl (lv_at hl 0 rfl) ?_
        refine zc_V (As := [.int i_16]) (rest := []) ⟨hx, hb, hml, hown, hts⟩ (c_F_M_doesCatch l D cI cJ cZ cP cS po m0 mrf mki mpa mta mla msl mco mhe mso msi msh mce mca mwo mnu mte mwa mke mma mth mtr (npu) (nte) (nat_) (nde) (nto) (nse) (nhu) (nga) (nsd) (nfa) (nba) (npl) (nen) (nnu) (nwr) (nra) (nik) gla gsl (i_16) hy0 hy1 hy2 hy3 hy4 hy5 hy6 hy7 hy8 hy9 hy10 hy11 hy12 hy13 (by omega) (by omega) hp_gla hp_gsl) (cwV 1 hts gX8_catches_X8_doesCatch rfl rfl rfl ⟨rfl, dh_X8_doesCatch⟩ ⟨Nat.le_of_ble_eq_true rfl, Nat.le_of_ble_eq_true rfl⟩) hK hN (hZ.kept hS) hP (hP.sub [0, 2, 3] rfl) (va_recv (q := (RX8, TX8, 38)) hK hP (ci := 8) (q0 := 0) rfl rfl) rfl hl.1 rfl (Nat.le_of_ble_eq_true rfl) dX8_catches_26 ⟨Nat.le_of_ble_eq_true rfl, Nat.le_of_ble_eq_true rfl⟩ (fun r_13 hr_13 => ?_)
        obtain ⟨g_14, g_15, hsr_13_0⟩ := hr_13
        refine lv_if_ne (tgt := 35) hx hb dX8_catches_29 (by decide) (fun c_16 => ?_) (fun c_16 => ?_)
        · have fc_16 : r_13.toInt ≠ 0 := zf_ne c_16 rfl (by decide)
          refine lv_iload_n hx hb dX8_catches_35 rfl (lv_at hl 1 rfl) ?_
          refine lv_iload_n hx hb dX8_catches_36 rfl (lv_at hl 3 rfl) ?_
          refine lv_icmp_ne (tgt := 42) hx hb dX8_catches_37 (by decide) (fun c_17 => ?_) (fun c_17 => ?_)
          · have fc_17 : v_2.toInt ≠ i.toInt := zf_ne c_17 rfl rfl
            obtain ⟨x_18, ex_18⟩ : ∃ y : Int32, y = v_2 + 1 := ⟨_, rfl⟩
            have qx_18 : x_18.toInt = v_2.toInt + 1 := by rw [ex_18]; exact zf_add rfl (by decide) (by omega) (by omega)
            refine lv_iinc (v := x_18) (lv' := [(2, .int x_18), (3, .int i_16), (0, .ref m0), (1, .int i)]) hx hb dX8_catches_42 hl (k := 1) rfl ex_18.symm (by decide) rfl (fun ls hl => ?_)
            obtain ⟨x_19, ex_19⟩ : ∃ y : Int32, y = i_16 + 1 := ⟨_, rfl⟩
            have qx_19 : x_19.toInt = i_16.toInt + 1 := dw_inc ex_19 fc_8
            refine lv_iinc (v := x_19) (lv' := [(3, .int x_19), (2, .int x_18), (0, .ref m0), (1, .int i)]) hx hb dX8_catches_45 hl (k := 1) rfl ex_19.symm (by decide) rfl (fun ls hl => ?_)
            refine lv_goto (tgt := 16) hx hb dX8_catches_48 (by decide) ?_
            exact ih x_19 x_18 _ _ _ (hP.sub [0, 1, 2, 3] rfl) (hD.sub [0, 1, 2, 3] (by decide) rfl) hS (lv_sub hl [0, 1, 2, 3] rfl) ⟨by omega, by omega⟩ (show (x_18 : Int32).toInt = zCn gla gsl nga.toInt x_19.toInt.toNat from by (have e7 : ((i_16.toInt.toNat : Nat) : Int) = i_16.toInt := (by omega); rw [show x_19.toInt.toNat = i_16.toInt.toNat + 1 from by omega, zCn_s]; first | (rw [if_pos (by rw [e7]; exact hsr_13_0.1 (by omega))]; omega) | (rw [if_neg (by rw [e7]; exact hsr_13_0.2 (by omega))]; omega))) (show (∀ t : Nat, (t : Int) < x_19.toInt → zCa gla gsl nga.toInt (t : Int) → zCn gla gsl nga.toInt t ≠ i.toInt) from by (intro t h1 h2; rcases (show (t : Int) < i_16.toInt ∨ (t : Int) = i_16.toInt by omega) with h3 | h3; (exact hvi_16_1 t h3 h2); (have h4 : t = i_16.toInt.toNat := (by omega); first | (rw [h4, ← hvi_16_0]; omega) | (exact absurd (by rw [← h3]; exact h2) (hsr_13_0.2 (by omega)))))) (show (x_18 : Int32).toInt ≤ x_19.toInt from by omega) (show x_19.toInt ≤ nte.toInt from by omega) (dw_lo hloi_16 qx_19) (dw_hn hni_16 qx_19)
          · have fc_17 : v_2.toInt = i.toInt := zf_eq c_17 rfl rfl
            refine lv_iload_n hx hb dX8_catches_40 rfl (lv_at hl 0 rfl) ?_
            exact W.iret (v := i_16) hx hb hr (fun t ht hW => ⟨⟨i_16, grf, rfl, ⟨(show (i.toInt < -1 → (i_16 : Int32).toInt = -5) ∧ (-1 ≤ i.toInt → ∃ q : Int, zCat gla gsl nga.toInt nte.toInt i.toInt q ∧ (i_16 : Int32).toInt = (if q = -1 then -5 else q)) from by (have km : ((-5) : Int32).toInt = -5 := (by decide); refine ⟨fun h => by (exfalso; omega), fun _ => ?_⟩; have e7 : ((i_16.toInt.toNat : Nat) : Int) = i_16.toInt := (by omega); refine ⟨i_16.toInt, Or.inl ⟨i_16.toInt.toNat, by omega, by (rw [e7]; exact hsr_13_0.1 (by omega)), by omega, by omega⟩, ?_⟩; rw [if_neg (by omega)])), trivial⟩, zRet ht hP hD [0, 1, 2, 3] (by decide) rfl⟩, hS.F ht⟩) hS.2.2 dX8_catches_41
        · have fc_16 : r_13.toInt = 0 := zf_eq c_16 rfl (by decide)
          refine lv_goto (tgt := 45) hx hb dX8_catches_32 (by decide) ?_
          obtain ⟨x_20, ex_20⟩ : ∃ y : Int32, y = i_16 + 1 := ⟨_, rfl⟩
          have qx_20 : x_20.toInt = i_16.toInt + 1 := dw_inc ex_20 fc_8
          refine lv_iinc (v := x_20) (lv' := [(3, .int x_20), (2, .int v_2), (0, .ref m0), (1, .int i)]) hx hb dX8_catches_45 hl (k := 0) rfl ex_20.symm (by decide) rfl (fun ls hl => ?_)
          refine lv_goto (tgt := 16) hx hb dX8_catches_48 (by decide) ?_
          exact ih x_20 v_2 _ _ _ (hP.sub [0, 1, 2, 3] rfl) (hD.sub [0, 1, 2, 3] (by decide) rfl) hS (lv_sub hl [0, 1, 2, 3] rfl) hbv_2 (show (v_2 : Int32).toInt = zCn gla gsl nga.toInt x_20.toInt.toNat from by (have e7 : ((i_16.toInt.toNat : Nat) : Int) = i_16.toInt := (by omega); rw [show x_20.toInt.toNat = i_16.toInt.toNat + 1 from by omega, zCn_s]; first | (rw [if_pos (by rw [e7]; exact hsr_13_0.1 (by omega))]; omega) | (rw [if_neg (by rw [e7]; exact hsr_13_0.2 (by omega))]; omega))) (show (∀ t : Nat, (t : Int) < x_20.toInt → zCa gla gsl nga.toInt (t : Int) → zCn gla gsl nga.toInt t ≠ i.toInt) from by (intro t h1 h2; rcases (show (t : Int) < i_16.toInt ∨ (t : Int) = i_16.toInt by omega) with h3 | h3; (exact hvi_16_1 t h3 h2); (have h4 : t = i_16.toInt.toNat := (by omega); first | (rw [h4, ← hvi_16_0]; omega) | (exact absurd (by rw [← h3]; exact h2) (hsr_13_0.2 (by omega)))))) (show (v_2 : Int32).toInt ≤ x_20.toInt from by omega) (show x_20.toInt ≤ nte.toInt from by omega) (dw_lo hloi_16 qx_20) (dw_hn hni_16 qx_20)
  · have fc_1 : i.toInt < (-1) := zf_nle c_1 (by decide) rfl
    refine lv_aload_n hx hb dX8_catches_5 rfl (lv_at hl 0 rfl) ?_
    refine lv_bipush (v := (-5)) hx hb dX8_catches_6 (by decide) ?_
    skip
    refine zw_V (As := [.int (-5)]) (rest := []) (wr := [(mla, .inl (cI, 40, .inl gla)), (msl, .inl (cI, 40, .inl gsl))]) ⟨hx, hb, hml, hown, hts⟩ (c_M_no_5 l D cI cJ cZ cP cS po m0 mrf mki mpa mta mla msl mco mhe mso msi msh mce mca mwo mnu mte mwa mke mma mth mtr (npu) (nte) (nat_) (nde) (nto) (nse) (nhu) (nga) (nsd) (nfa) (nba) (npl) (nen) (nnu) (nwr) (nra) (nik) grf hy0 hy1 hy2 hy3 hy4 hy5 hy6 hy7 hy8 hy9 hy10 hy11 hy12 hy13 H.size) (cwV 1 hts gX8_catches_X8_no rfl rfl rfl ⟨rfl, dh_X8_no⟩ ⟨Nat.le_of_ble_eq_true rfl, Nat.le_of_ble_eq_true rfl⟩) hK hN (hZ.kept hS) hP hD hS hA [0, 1] [2, 3] rfl rfl (by decide) (by decide) (by decide) (va_recv (q := (RX8, TX8, 38)) hK hP (ci := 8) (q0 := 0) rfl rfl) rfl hl.1 rfl (Nat.le_of_ble_eq_true rfl) dX8_catches_8 ⟨Nat.le_of_ble_eq_true rfl, Nat.le_of_ble_eq_true rfl⟩ (fun r_21 u_22 H locs hr_21 hP hD hS => ?_)
    obtain ⟨q_23, rfl⟩ : ∃ z, z = u_22 := ⟨_, rfl⟩
    have h9R := zRe (ws' := [(mla, .inl (cI, 40, .inl gla)), (msl, .inl (cI, 40, .inl gsl)), (zMO m0 npu nte nat_ nde nto nse nhu nga nsd nfa mrf mki mpa mta mla msl mco mhe mso msi msh mce mca mwo mnu mte nba npl nen nnu nwr mwa mke mma mth mtr nra nik), (mrf, .inl (cI, 8, .inl q_23))]) hP hD rfl
    clear hP hD
    obtain ⟨hP, hD⟩ := h9R
    obtain rfl := hr_21
    exact W.iret (v := (-5)) hx hb hr (fun t ht hW => ⟨⟨(-5), q_23, rfl, ⟨(show (i.toInt < -1 → ((-5) : Int32).toInt = -5) ∧ (-1 ≤ i.toInt → ∃ q : Int, zCat gla gsl nga.toInt nte.toInt i.toInt q ∧ ((-5) : Int32).toInt = (if q = -1 then -5 else q)) from by (have km : ((-5) : Int32).toInt = -5 := (by decide); exact ⟨fun _ => km, fun h => by (exfalso; omega)⟩)), trivial⟩, zRet ht hP hD [2, 3, 0, 1] (by decide) rfl⟩, hS.F ht⟩) hS.2.2 dX8_catches_11
end
