set_option maxHeartbeats 4000000 in
set_option maxRecDepth 100000 in
theorem c_F_M_row (l : Launch) (D : va_G) (cI cJ cZ cP cS : ClassId) (po : zPool) (m0 mrf mki mpa mta mla msl mco mhe mso msi msh mce mca mwo mnu mte mwa mke mma mth mtr : Nat) (npu nte nat_ nde nto nse nhu nga nsd nfa nba npl nen nnu nwr nra nik : Int32) (grf ghe gso gsi gsh : Nat → Int32) (gce : Nat → Int64) (s_ o n : Int32) (hy0 : 0 ≤ npu.toInt) (hy1 : npu.toInt ≤ 8) (hy2 : 4 ≤ nte.toInt) (hy3 : nte.toInt ≤ 40) (hy4 : 0 ≤ nat_.toInt) (hy5 : nat_.toInt ≤ 40) (hy6 : 0 ≤ nde.toInt) (hy7 : nde.toInt ≤ 24) (hy8 : 0 ≤ nhu.toInt) (hy9 : nhu.toInt ≤ 9) (hy10 : 0 ≤ nra.toInt) (hy11 : nra.toInt ≤ 2000) (hy12 : 0 ≤ nik.toInt) (hy13 : nik.toInt ≤ 1) (hHS : zHS ghe gsh) (hp_ghe : zRg ghe (0) 2) (hp_gso : zRg gso (0) 3) (hp_gsi : zRg gsi (0) 160) (hp_gsh : zRg gsh (-1) 7) (hpz : Nat) : Met l yX8_row wsX8_row ({ frames := 1, cells := 0, slots := 0, locals := 21 }) (va_Pc [.ref m0, .int s_, .int o, .int n] (zW D (zKT cI cJ cZ cP cS) po [(zMO m0 npu nte nat_ nde nto nse nhu nga nsd nfa mrf mki mpa mta mla msl mco mhe mso msi msh mce mca mwo mnu mte nba npl nen nnu nwr mwa mke mma mth mtr nra nik), (mrf, .inl (cI, 8, .inl grf)), (mhe, .inl (cI, 8, .inl ghe)), (mso, .inl (cI, 8, .inl gso)), (msi, .inl (cI, 8, .inl gsi)), (msh, .inl (cI, 8, .inl gsh)), (mce, .inl (cJ, 1280, .inr (.inl gce)))] hpz)) (va_Qi (fun (r : Int32) (u : (Nat → Int32) × (Nat → Int32) × (Nat → Int32) × (Nat → Int32) × (Nat → Int64)) => zRg u.2.1 (0) 2 ∧ zRg u.2.2.1 (0) 3 ∧ zRg u.2.2.2.1 (0) 160 ∧ (r.toInt = zRow s_.toInt o.toInt n.toInt) ∧ (zHS u.2.1 gsh) ∧ ((r.toInt = 1 → u.2.1 = upd ghe s_.toNatClampNeg 1 ∧ u.2.2.1 = upd gso s_.toNatClampNeg o ∧ u.2.2.2.1 = upd gsi s_.toNatClampNeg n ∧ ∀ j : Nat, u.2.2.2.2 j = (if 160 * s_.toNatClampNeg ≤ j ∧ j < 160 * s_.toNatClampNeg + 160 then 0 else gce j))) ∧ ((r.toInt ≠ 1 → u.2.1 = ghe ∧ u.2.2.1 = gso ∧ u.2.2.2.1 = gsi ∧ u.2.2.2.2 = gce)) ∧ (True)) (zB D [(zMO m0 npu nte nat_ nde nto nse nhu nga nsd nfa mrf mki mpa mta mla msl mco mhe mso msi msh mce mca mwo mnu mte nba npl nen nnu nwr mwa mke mma mth mtr nra nik), (mrf, .inl (cI, 8, .inl grf)), (mhe, .inl (cI, 8, .inl ghe)), (mso, .inl (cI, 8, .inl gso)), (msi, .inl (cI, 8, .inl gsi)), (msh, .inl (cI, 8, .inl gsh)), (mce, .inl (cJ, 1280, .inr (.inl gce)))] hpz (fun (u : (Nat → Int32) × (Nat → Int32) × (Nat → Int32) × (Nat → Int32) × (Nat → Int64)) => [(zMO m0 npu nte nat_ nde nto nse nhu nga nsd nfa mrf mki mpa mta mla msl mco mhe mso msi msh mce mca mwo mnu mte nba npl nen nnu nwr mwa mke mma mth mtr nra nik), (mrf, .inl (cI, 8, .inl u.1)), (mhe, .inl (cI, 8, .inl u.2.1)), (mso, .inl (cI, 8, .inl u.2.2.1)), (msi, .inl (cI, 8, .inl u.2.2.2.1)), (msh, .inl (cI, 8, .inl gsh)), (mce, .inl (cJ, 1280, .inr (.inl u.2.2.2.2)))])) (va_A [(zMO m0 npu nte nat_ nde nto nse nhu nga nsd nfa mrf mki mpa mta mla msl mco mhe mso msi msh mce mca mwo mnu mte nba npl nen nnu nwr mwa mke mma mth mtr nra nik), (mrf, .inl (cI, 8, .inl grf)), (mhe, .inl (cI, 8, .inl ghe)), (mso, .inl (cI, 8, .inl gso)), (msi, .inl (cI, 8, .inl gsi)), (msh, .inl (cI, 8, .inl gsh)), (mce, .inl (cJ, 1280, .inr (.inl gce)))] hpz)) 0 0 (va_A [(zMO m0 npu nte nat_ nde nto nse nhu nga nsd nfa mrf mki mpa mta mla msl mco mhe mso msi msh mce mca mwo mnu mte nba npl nen nnu nwr mwa mke mma mth mtr nra nik), (mrf, .inl (cI, 8, .inl grf)), (mhe, .inl (cI, 8, .inl ghe)), (mso, .inl (cI, 8, .inl gso)), (msi, .inl (cI, 8, .inl gsi)), (msh, .inl (cI, 8, .inl gsh)), (mce, .inl (cJ, 1280, .inr (.inl gce)))] hpz) := by
  refine Met.ofW (cc := cX8_row) (maxL := 5) (ret := (some .int)) (by decide) rfl ?_
  intro p e s m args below meth c s₁ B hml hv
  obtain ⟨rfl, hsz, hP, hK, hD0, hN, hZ⟩ := hv
  have hx := B.exec
  have hb := B.bytes
  have hr := B.returns
  have hts := atoms_spec (ws := wsX8_row) B.pre
  have hown : s.vm.findClass RX8 = some m.cls := findClass_of_methodNamed B.named
  have hlocks := B.notSynchronized
  subst hsz
  have hD := hD0.self (sz := s.heap.size)
  have hA := zA_of hD
  have hl := lv_entry ([.ref m0, .int s_, .int o, .int n]) (n := 5) (Nat.le_of_ble_eq_true rfl)
  rw [lg_entry_eq]
  generalize (lg_sl ([.ref m0, .int s_, .int o, .int n]) ++ List.replicate (5 - (lg_sl ([.ref m0, .int s_, .int o, .int n])).length) Slot.unset).toArray = ls at hl ⊢
  replace hl : lv_has ls 5 [(0, .ref m0), (1, .int s_), (2, .int o), (3, .int n)] := hl
  refine zw_begin hP hD (fun H locs hP1 hS => ?_)
  clear hP
  have hP := hP1
  clear hP1
  refine lv_aload_n hx hb dX8_row_0 rfl (lv_at hl 0 rfl) ?_
  refine lv_iload_n hx hb dX8_row_1 rfl (lv_at hl 1 rfl) ?_
  refine zc_V (As := [.int s_]) (rest := []) ⟨hx, hb, hml, hown, hts⟩ (c_M_isShelf l D cI cJ cZ cP cS po m0 mrf mki mpa mta mla msl mco mhe mso msi msh mce mca mwo mnu mte mwa mke mma mth mtr (npu) (nte) (nat_) (nde) (nto) (nse) (nhu) (nga) (nsd) (nfa) (nba) (npl) (nen) (nnu) (nwr) (nra) (nik) (s_) hy0 hy1 hy2 hy3 hy4 hy5 hy6 hy7 hy8 hy9 hy10 hy11 hy12 hy13) (cwV 1 hts gX8_row_X8_isShelf rfl rfl rfl ⟨rfl, dh_X8_isShelf⟩ ⟨Nat.le_of_ble_eq_true rfl, Nat.le_of_ble_eq_true rfl⟩) hK hN (hZ.kept hS) hP (hP.sub [0] rfl) (va_recv (q := (RX8, TX8, 38)) hK hP (ci := 8) (q0 := 0) rfl rfl) rfl hl.1 rfl (Nat.le_of_ble_eq_true rfl) dX8_row_2 ⟨Nat.le_of_ble_eq_true rfl, Nat.le_of_ble_eq_true rfl⟩ (fun r_1 hr_1 => ?_)
  rcases hr_1 with ⟨rfl, g_2⟩ | ⟨rfl, g_3, g_4⟩ | ⟨rfl, g_5, g_6⟩
  · refine lv_if_ne (tgt := 14) hx hb dX8_row_5 (by decide) (fun c_7 => ?_) (fun c_7 => ?_)
    · exact absurd c_7 (by decide)
    · refine lv_aload_n hx hb dX8_row_8 rfl (lv_at hl 0 rfl) ?_
      refine lv_iconst (v := (-1)) hx hb dX8_row_9 (by decide) ?_
      skip
      refine zw_V (As := [.int (-1)]) (rest := []) (wr := [(mhe, .inl (cI, 8, .inl ghe)), (mso, .inl (cI, 8, .inl gso)), (msi, .inl (cI, 8, .inl gsi)), (msh, .inl (cI, 8, .inl gsh)), (mce, .inl (cJ, 1280, .inr (.inl gce)))]) ⟨hx, hb, hml, hown, hts⟩ (c_M_no_1 l D cI cJ cZ cP cS po m0 mrf mki mpa mta mla msl mco mhe mso msi msh mce mca mwo mnu mte mwa mke mma mth mtr (npu) (nte) (nat_) (nde) (nto) (nse) (nhu) (nga) (nsd) (nfa) (nba) (npl) (nen) (nnu) (nwr) (nra) (nik) grf hy0 hy1 hy2 hy3 hy4 hy5 hy6 hy7 hy8 hy9 hy10 hy11 hy12 hy13 H.size) (cwV 1 hts gX8_row_X8_no rfl rfl rfl ⟨rfl, dh_X8_no⟩ ⟨Nat.le_of_ble_eq_true rfl, Nat.le_of_ble_eq_true rfl⟩) hK hN (hZ.kept hS) hP hD hS hA [0, 1] [2, 3, 4, 5, 6] rfl rfl (by decide) (by decide) (by decide) (va_recv (q := (RX8, TX8, 38)) hK hP (ci := 8) (q0 := 0) rfl rfl) rfl hl.1 rfl (Nat.le_of_ble_eq_true rfl) dX8_row_10 ⟨Nat.le_of_ble_eq_true rfl, Nat.le_of_ble_eq_true rfl⟩ (fun r_8 u_9 H locs hr_8 hP hD hS => ?_)
      obtain ⟨q_10, rfl⟩ : ∃ z, z = u_9 := ⟨_, rfl⟩
      have h9R := zRe (ws' := [(mhe, .inl (cI, 8, .inl ghe)), (mso, .inl (cI, 8, .inl gso)), (msi, .inl (cI, 8, .inl gsi)), (msh, .inl (cI, 8, .inl gsh)), (mce, .inl (cJ, 1280, .inr (.inl gce))), (zMO m0 npu nte nat_ nde nto nse nhu nga nsd nfa mrf mki mpa mta mla msl mco mhe mso msi msh mce mca mwo mnu mte nba npl nen nnu nwr mwa mke mma mth mtr nra nik), (mrf, .inl (cI, 8, .inl q_10))]) hP hD rfl
      clear hP hD
      obtain ⟨hP, hD⟩ := h9R
      obtain rfl := hr_8
      exact W.iret (v := (-1)) hx hb hr (fun t ht hW => ⟨⟨(-1), (q_10, ghe, gso, gsi, gce), rfl, ⟨hp_ghe, hp_gso, hp_gsi, (show ((-1) : Int32).toInt = zRow s_.toInt o.toInt n.toInt from by (have k9 : ((-1) : Int32).toInt = -1 := (by decide); unfold zRow; (repeat (first | rw [if_pos (by omega)] | rw [if_neg (by omega)])) <;> omega)), (show zHS ghe gsh from by exact hHS), (show (((-1) : Int32).toInt = 1 → ghe = upd ghe s_.toNatClampNeg 1 ∧ gso = upd gso s_.toNatClampNeg o ∧ gsi = upd gsi s_.toNatClampNeg n ∧ ∀ j : Nat, gce j = (if 160 * s_.toNatClampNeg ≤ j ∧ j < 160 * s_.toNatClampNeg + 160 then 0 else gce j)) from by (have k9 : ((-1) : Int32).toInt = -1 := (by decide); intro h; exfalso; omega)), (show (((-1) : Int32).toInt ≠ 1 → ghe = ghe ∧ gso = gso ∧ gsi = gsi ∧ gce = gce) from by (have k9 : ((-1) : Int32).toInt = -1 := (by decide); intro h; exact ⟨rfl, rfl, rfl, rfl⟩)), trivial⟩, zRet ht hP hD [5, 6, 0, 1, 2, 3, 4] (by decide) rfl⟩, hS.F ht⟩) hS.2.2 dX8_row_13
  · refine lv_if_ne (tgt := 14) hx hb dX8_row_5 (by decide) (fun c_11 => ?_) (fun c_11 => ?_)
    · exact absurd c_11 (by decide)
    · refine lv_aload_n hx hb dX8_row_8 rfl (lv_at hl 0 rfl) ?_
      refine lv_iconst (v := (-1)) hx hb dX8_row_9 (by decide) ?_
      skip
      refine zw_V (As := [.int (-1)]) (rest := []) (wr := [(mhe, .inl (cI, 8, .inl ghe)), (mso, .inl (cI, 8, .inl gso)), (msi, .inl (cI, 8, .inl gsi)), (msh, .inl (cI, 8, .inl gsh)), (mce, .inl (cJ, 1280, .inr (.inl gce)))]) ⟨hx, hb, hml, hown, hts⟩ (c_M_no_1 l D cI cJ cZ cP cS po m0 mrf mki mpa mta mla msl mco mhe mso msi msh mce mca mwo mnu mte mwa mke mma mth mtr (npu) (nte) (nat_) (nde) (nto) (nse) (nhu) (nga) (nsd) (nfa) (nba) (npl) (nen) (nnu) (nwr) (nra) (nik) grf hy0 hy1 hy2 hy3 hy4 hy5 hy6 hy7 hy8 hy9 hy10 hy11 hy12 hy13 H.size) (cwV 1 hts gX8_row_X8_no rfl rfl rfl ⟨rfl, dh_X8_no⟩ ⟨Nat.le_of_ble_eq_true rfl, Nat.le_of_ble_eq_true rfl⟩) hK hN (hZ.kept hS) hP hD hS hA [0, 1] [2, 3, 4, 5, 6] rfl rfl (by decide) (by decide) (by decide) (va_recv (q := (RX8, TX8, 38)) hK hP (ci := 8) (q0 := 0) rfl rfl) rfl hl.1 rfl (Nat.le_of_ble_eq_true rfl) dX8_row_10 ⟨Nat.le_of_ble_eq_true rfl, Nat.le_of_ble_eq_true rfl⟩ (fun r_12 u_13 H locs hr_12 hP hD hS => ?_)
      obtain ⟨q_14, rfl⟩ : ∃ z, z = u_13 := ⟨_, rfl⟩
      have h9R := zRe (ws' := [(mhe, .inl (cI, 8, .inl ghe)), (mso, .inl (cI, 8, .inl gso)), (msi, .inl (cI, 8, .inl gsi)), (msh, .inl (cI, 8, .inl gsh)), (mce, .inl (cJ, 1280, .inr (.inl gce))), (zMO m0 npu nte nat_ nde nto nse nhu nga nsd nfa mrf mki mpa mta mla msl mco mhe mso msi msh mce mca mwo mnu mte nba npl nen nnu nwr mwa mke mma mth mtr nra nik), (mrf, .inl (cI, 8, .inl q_14))]) hP hD rfl
      clear hP hD
      obtain ⟨hP, hD⟩ := h9R
      obtain rfl := hr_12
      exact W.iret (v := (-1)) hx hb hr (fun t ht hW => ⟨⟨(-1), (q_14, ghe, gso, gsi, gce), rfl, ⟨hp_ghe, hp_gso, hp_gsi, (show ((-1) : Int32).toInt = zRow s_.toInt o.toInt n.toInt from by (have k9 : ((-1) : Int32).toInt = -1 := (by decide); unfold zRow; (repeat (first | rw [if_pos (by omega)] | rw [if_neg (by omega)])) <;> omega)), (show zHS ghe gsh from by exact hHS), (show (((-1) : Int32).toInt = 1 → ghe = upd ghe s_.toNatClampNeg 1 ∧ gso = upd gso s_.toNatClampNeg o ∧ gsi = upd gsi s_.toNatClampNeg n ∧ ∀ j : Nat, gce j = (if 160 * s_.toNatClampNeg ≤ j ∧ j < 160 * s_.toNatClampNeg + 160 then 0 else gce j)) from by (have k9 : ((-1) : Int32).toInt = -1 := (by decide); intro h; exfalso; omega)), (show (((-1) : Int32).toInt ≠ 1 → ghe = ghe ∧ gso = gso ∧ gsi = gsi ∧ gce = gce) from by (have k9 : ((-1) : Int32).toInt = -1 := (by decide); intro h; exact ⟨rfl, rfl, rfl, rfl⟩)), trivial⟩, zRet ht hP hD [5, 6, 0, 1, 2, 3, 4] (by decide) rfl⟩, hS.F ht⟩) hS.2.2 dX8_row_13
  · refine lv_if_ne (tgt := 14) hx hb dX8_row_5 (by decide) (fun c_15 => ?_) (fun c_15 => ?_)
    · refine lv_iload_n hx hb dX8_row_14 rfl (lv_at hl 3 rfl) ?_
      refine lv_if_ge (tgt := 25) hx hb dX8_row_15 (by decide) (fun c_16 => ?_) (fun c_16 => ?_)
      · have fc_16 : 0 ≤ n.toInt := zf_le c_16 (by decide) rfl
        refine lv_iload_n hx hb dX8_row_25 rfl (lv_at hl 2 rfl) ?_
        refine lv_if_lt (tgt := 34) hx hb dX8_row_26 (by decide) (fun c_17 => ?_) (fun c_17 => ?_)
        · have fc_17 : o.toInt < 0 := zf_lt c_17 rfl (by decide)
          refine lv_aload_n hx hb dX8_row_34 rfl (lv_at hl 0 rfl) ?_
          refine lv_bipush (v := (-6)) hx hb dX8_row_35 (by decide) ?_
          skip
          refine zw_V (As := [.int (-6)]) (rest := []) (wr := [(mhe, .inl (cI, 8, .inl ghe)), (mso, .inl (cI, 8, .inl gso)), (msi, .inl (cI, 8, .inl gsi)), (msh, .inl (cI, 8, .inl gsh)), (mce, .inl (cJ, 1280, .inr (.inl gce)))]) ⟨hx, hb, hml, hown, hts⟩ (c_M_no_6 l D cI cJ cZ cP cS po m0 mrf mki mpa mta mla msl mco mhe mso msi msh mce mca mwo mnu mte mwa mke mma mth mtr (npu) (nte) (nat_) (nde) (nto) (nse) (nhu) (nga) (nsd) (nfa) (nba) (npl) (nen) (nnu) (nwr) (nra) (nik) grf hy0 hy1 hy2 hy3 hy4 hy5 hy6 hy7 hy8 hy9 hy10 hy11 hy12 hy13 H.size) (cwV 1 hts gX8_row_X8_no rfl rfl rfl ⟨rfl, dh_X8_no⟩ ⟨Nat.le_of_ble_eq_true rfl, Nat.le_of_ble_eq_true rfl⟩) hK hN (hZ.kept hS) hP hD hS hA [0, 1] [2, 3, 4, 5, 6] rfl rfl (by decide) (by decide) (by decide) (va_recv (q := (RX8, TX8, 38)) hK hP (ci := 8) (q0 := 0) rfl rfl) rfl hl.1 rfl (Nat.le_of_ble_eq_true rfl) dX8_row_37 ⟨Nat.le_of_ble_eq_true rfl, Nat.le_of_ble_eq_true rfl⟩ (fun r_18 u_19 H locs hr_18 hP hD hS => ?_)
          obtain ⟨q_20, rfl⟩ : ∃ z, z = u_19 := ⟨_, rfl⟩
          have h9R := zRe (ws' := [(mhe, .inl (cI, 8, .inl ghe)), (mso, .inl (cI, 8, .inl gso)), (msi, .inl (cI, 8, .inl gsi)), (msh, .inl (cI, 8, .inl gsh)), (mce, .inl (cJ, 1280, .inr (.inl gce))), (zMO m0 npu nte nat_ nde nto nse nhu nga nsd nfa mrf mki mpa mta mla msl mco mhe mso msi msh mce mca mwo mnu mte nba npl nen nnu nwr mwa mke mma mth mtr nra nik), (mrf, .inl (cI, 8, .inl q_20))]) hP hD rfl
          clear hP hD
          obtain ⟨hP, hD⟩ := h9R
          obtain rfl := hr_18
          exact W.iret (v := (-6)) hx hb hr (fun t ht hW => ⟨⟨(-6), (q_20, ghe, gso, gsi, gce), rfl, ⟨hp_ghe, hp_gso, hp_gsi, (show ((-6) : Int32).toInt = zRow s_.toInt o.toInt n.toInt from by (have k9 : ((-6) : Int32).toInt = -6 := (by decide); unfold zRow; (repeat (first | rw [if_pos (by omega)] | rw [if_neg (by omega)])) <;> omega)), (show zHS ghe gsh from by exact hHS), (show (((-6) : Int32).toInt = 1 → ghe = upd ghe s_.toNatClampNeg 1 ∧ gso = upd gso s_.toNatClampNeg o ∧ gsi = upd gsi s_.toNatClampNeg n ∧ ∀ j : Nat, gce j = (if 160 * s_.toNatClampNeg ≤ j ∧ j < 160 * s_.toNatClampNeg + 160 then 0 else gce j)) from by (have k9 : ((-6) : Int32).toInt = -6 := (by decide); intro h; exfalso; omega)), (show (((-6) : Int32).toInt ≠ 1 → ghe = ghe ∧ gso = gso ∧ gsi = gsi ∧ gce = gce) from by (have k9 : ((-6) : Int32).toInt = -6 := (by decide); intro h; exact ⟨rfl, rfl, rfl, rfl⟩)), trivial⟩, zRet ht hP hD [5, 6, 0, 1, 2, 3, 4] (by decide) rfl⟩, hS.F ht⟩) hS.2.2 dX8_row_40
        · have fc_17 : 0 ≤ o.toInt := zf_nlt c_17 rfl (by decide)
          refine lv_iload_n hx hb dX8_row_29 rfl (lv_at hl 2 rfl) ?_
          refine lv_iconst (v := 3) hx hb dX8_row_30 (by decide) ?_
          refine lv_icmp_le (tgt := 41) hx hb dX8_row_31 (by decide) (fun c_21 => ?_) (fun c_21 => ?_)
          · have fc_21 : o.toInt ≤ 3 := zf_le c_21 rfl (by decide)
            refine lv_iload_n hx hb dX8_row_41 rfl (lv_at hl 3 rfl) ?_
            refine lv_sipush (v := 160) hx hb dX8_row_42 (by decide) ?_
            refine lv_icmp_le (tgt := 55) hx hb dX8_row_45 (by decide) (fun c_22 => ?_) (fun c_22 => ?_)
            · have fc_22 : n.toInt ≤ 160 := zf_le c_22 rfl (by decide)
              refine lv_aload_n hx hb dX8_row_55 rfl (lv_at hl 0 rfl) ?_
              refine va_get (D := D) (ci := 8) (v := .ref mhe) (C := RX8) (T := TX8) (N := 38) hx hb hts hi_X8_row_8 hown hK hP 0 rfl rfl 17 (by decide) (hts (.fieldLink RX8 47 "TheLiningsInItModel" "held" "[I") (List.mem_of_getElem? (i := 1) rfl)) (fun _ h9 => h9) rfl dX8_row_56 ?_
              refine lv_iload_n hx hb dX8_row_59 rfl (lv_at hl 1 rfl) ?_
              refine lv_iconst (v := 1) hx hb dX8_row_60 (by decide) ?_
              refine va_iast hx hb hK hP hD hS 2 0 rfl rfl (zf_in (by omega) (by omega)) dX8_row_61 (fun H locs hP hD hS => ?_)
              have hpg_23 : zRg (upd ghe s_.toNatClampNeg 1) (0) 2 := zRg_upd hp_ghe (by decide) (by decide)
              obtain ⟨g_23, hg_23⟩ : ∃ g : Nat → Int32, g = upd ghe s_.toNatClampNeg 1 := ⟨_, rfl⟩
              rw [← hg_23] at hP hD hpg_23
              have h9R := zRe (ws' := [(zMO m0 npu nte nat_ nde nto nse nhu nga nsd nfa mrf mki mpa mta mla msl mco mhe mso msi msh mce mca mwo mnu mte nba npl nen nnu nwr mwa mke mma mth mtr nra nik), (mrf, .inl (cI, 8, .inl grf)), (mhe, .inl (cI, 8, .inl g_23)), (mso, .inl (cI, 8, .inl gso)), (msi, .inl (cI, 8, .inl gsi)), (msh, .inl (cI, 8, .inl gsh)), (mce, .inl (cJ, 1280, .inr (.inl gce)))]) hP hD rfl
              clear hP hD
              obtain ⟨hP, hD⟩ := h9R
              refine lv_aload_n hx hb dX8_row_62 rfl (lv_at hl 0 rfl) ?_
              refine va_get (D := D) (ci := 8) (v := .ref mso) (C := RX8) (T := TX8) (N := 38) hx hb hts hi_X8_row_8 hown hK hP 0 rfl rfl 18 (by decide) (hts (.fieldLink RX8 50 "TheLiningsInItModel" "sort" "[I") (List.mem_of_getElem? (i := 2) rfl)) (fun _ h9 => h9) rfl dX8_row_63 ?_
              refine lv_iload_n hx hb dX8_row_66 rfl (lv_at hl 1 rfl) ?_
              refine lv_iload_n hx hb dX8_row_67 rfl (lv_at hl 2 rfl) ?_
              refine va_iast hx hb hK hP hD hS 3 0 rfl rfl (zf_in (by omega) (by omega)) dX8_row_68 (fun H locs hP hD hS => ?_)
              have hpg_24 : zRg (upd gso s_.toNatClampNeg o) (0) 3 := zRg_upd hp_gso (by omega) (by omega)
              obtain ⟨g_24, hg_24⟩ : ∃ g : Nat → Int32, g = upd gso s_.toNatClampNeg o := ⟨_, rfl⟩
              rw [← hg_24] at hP hD hpg_24
              have h9R := zRe (ws' := [(zMO m0 npu nte nat_ nde nto nse nhu nga nsd nfa mrf mki mpa mta mla msl mco mhe mso msi msh mce mca mwo mnu mte nba npl nen nnu nwr mwa mke mma mth mtr nra nik), (mrf, .inl (cI, 8, .inl grf)), (mhe, .inl (cI, 8, .inl g_23)), (mso, .inl (cI, 8, .inl g_24)), (msi, .inl (cI, 8, .inl gsi)), (msh, .inl (cI, 8, .inl gsh)), (mce, .inl (cJ, 1280, .inr (.inl gce)))]) hP hD rfl
              clear hP hD
              obtain ⟨hP, hD⟩ := h9R
              refine lv_aload_n hx hb dX8_row_69 rfl (lv_at hl 0 rfl) ?_
              refine va_get (D := D) (ci := 8) (v := .ref msi) (C := RX8) (T := TX8) (N := 38) hx hb hts hi_X8_row_8 hown hK hP 0 rfl rfl 19 (by decide) (hts (.fieldLink RX8 53 "TheLiningsInItModel" "size" "[I") (List.mem_of_getElem? (i := 3) rfl)) (fun _ h9 => h9) rfl dX8_row_70 ?_
              refine lv_iload_n hx hb dX8_row_73 rfl (lv_at hl 1 rfl) ?_
              refine lv_iload_n hx hb dX8_row_74 rfl (lv_at hl 3 rfl) ?_
              refine va_iast hx hb hK hP hD hS 4 0 rfl rfl (zf_in (by omega) (by omega)) dX8_row_75 (fun H locs hP hD hS => ?_)
              have hpg_25 : zRg (upd gsi s_.toNatClampNeg n) (0) 160 := zRg_upd hp_gsi (by omega) (by omega)
              obtain ⟨g_25, hg_25⟩ : ∃ g : Nat → Int32, g = upd gsi s_.toNatClampNeg n := ⟨_, rfl⟩
              rw [← hg_25] at hP hD hpg_25
              have h9R := zRe (ws' := [(zMO m0 npu nte nat_ nde nto nse nhu nga nsd nfa mrf mki mpa mta mla msl mco mhe mso msi msh mce mca mwo mnu mte nba npl nen nnu nwr mwa mke mma mth mtr nra nik), (mrf, .inl (cI, 8, .inl grf)), (mhe, .inl (cI, 8, .inl g_23)), (mso, .inl (cI, 8, .inl g_24)), (msi, .inl (cI, 8, .inl g_25)), (msh, .inl (cI, 8, .inl gsh)), (mce, .inl (cJ, 1280, .inr (.inl gce)))]) hP hD rfl
              clear hP hD
              obtain ⟨hP, hD⟩ := h9R
              have hHS1 : zHS g_23 gsh := by
                intro j hj
                rw [hg_23] at hj
                simp only [upd] at hj
                by_cases e9 : j = s_.toNatClampNeg
                · rw [if_pos e9] at hj
                  first | exact absurd hj (by decide) | exact ⟨by omega, by omega⟩
                · rw [if_neg e9] at hj
                  exact hHS j hj
              refine lv_iconst (v := 0) hx hb dX8_row_76 (by decide) ?_
              refine lv_istore (lv' := [(4, .int 0), (0, .ref m0), (1, .int s_), (2, .int o), (3, .int n)]) hx hb dX8_row_77 hl (by decide) rfl (fun ls hl => ?_)
              obtain ⟨i_79, hi_79⟩ : ∃ i : Int32, i = 0 := ⟨_, rfl⟩
              replace hl : lv_has ls 5 [(4, .int i_79), (0, .ref m0), (1, .int s_), (2, .int o), (3, .int n)] := by rw [hi_79]; exact lv_sub hl [0, 1, 2, 3, 4] rfl
              have h1i_79 : i_79.toInt = 0 := by rw [hi_79]; decide
              obtain ⟨nfu, hni_79⟩ : ∃ nq9 : Nat, 160 ≤ i_79.toInt + (nq9 : Int) := ⟨((160 : Int) - 0).toNat, by omega⟩
              have hloi_79 : 0 ≤ i_79.toInt := by omega
              obtain ⟨g_26, hg_26⟩ : ∃ g : Nat → Int64, g = gce := ⟨_, rfl⟩
              replace hP : va_P D vwCl [(zMO m0 npu nte nat_ nde nto nse nhu nga nsd nfa mrf mki mpa mta mla msl mco mhe mso msi msh mce mca mwo mnu mte nba npl nen nnu nwr mwa mke mma mth mtr nra nik), (mrf, .inl (cI, 8, .inl grf)), (mhe, .inl (cI, 8, .inl g_23)), (mso, .inl (cI, 8, .inl g_24)), (msi, .inl (cI, 8, .inl g_25)), (msh, .inl (cI, 8, .inl gsh)), (mce, .inl (cJ, 1280, .inr (.inl g_26)))] H := by rw [hg_26]; exact hP
              replace hD : va_D (va_A [(zMO m0 npu nte nat_ nde nto nse nhu nga nsd nfa mrf mki mpa mta mla msl mco mhe mso msi msh mce mca mwo mnu mte nba npl nen nnu nwr mwa mke mma mth mtr nra nik), (mrf, .inl (cI, 8, .inl grf)), (mhe, .inl (cI, 8, .inl ghe)), (mso, .inl (cI, 8, .inl gso)), (msi, .inl (cI, 8, .inl gsi)), (msh, .inl (cI, 8, .inl gsh)), (mce, .inl (cJ, 1280, .inr (.inl gce)))] s.heap.size) [(zMO m0 npu nte nat_ nde nto nse nhu nga nsd nfa mrf mki mpa mta mla msl mco mhe mso msi msh mce mca mwo mnu mte nba npl nen nnu nwr mwa mke mma mth mtr nra nik), (mrf, .inl (cI, 8, .inl grf)), (mhe, .inl (cI, 8, .inl g_23)), (mso, .inl (cI, 8, .inl g_24)), (msi, .inl (cI, 8, .inl g_25)), (msh, .inl (cI, 8, .inl gsh)), (mce, .inl (cJ, 1280, .inr (.inl g_26)))] := by rw [hg_26]; exact hD
              have hvi_79_0 : (∀ j : Nat, g_26 j = (if 160 * s_.toNatClampNeg ≤ j ∧ j < 160 * s_.toNatClampNeg + i_79.toInt.toNat then 0 else gce j)) := by
                (try rw [hi_79]); (try rw [hg_26]); (intro j; rw [if_neg (by have h8 : ((0 : Int32).toInt.toNat = 0) := (by decide); omega)])
              have hvi_79_1 : i_79.toInt ≤ 160 := by
                (try rw [hi_79]); (try rw [hg_26]); first | omega | decide
              clear h1i_79 hi_79 hg_26
              skip
              revert hni_79
              revert hloi_79
              revert hvi_79_1
              revert hvi_79_0
              revert hl
              revert hS
              revert hD
              revert hP
              revert ls
              revert locs
              revert H
              revert g_26
              revert i_79
              induction nfu with
              | zero =>
                intro i_79 g_26 H locs ls hP hD hS hl hvi_79_0 hvi_79_1 hloi_79 hni_79
                have hzi_79 : 160 ≤ i_79.toInt := by omega
                refine lv_iload hx hb dX8_row_79 (lv_at hl 0 rfl) ?_
                refine lv_sipush (v := 160) hx hb dX8_row_81 (by decide) ?_
                refine lv_icmp_ge (tgt := 107) hx hb dX8_row_84 (by decide) (fun c_27 => ?_) (fun c_27 => ?_)
                · have fc_27 : 160 ≤ i_79.toInt := zf_le c_27 (by decide) rfl
                  refine lv_iconst (v := 1) hx hb dX8_row_107 (by decide) ?_
                  exact W.iret (v := 1) hx hb hr (fun t ht hW => ⟨⟨1, (grf, g_23, g_24, g_25, g_26), rfl, ⟨hpg_23, hpg_24, hpg_25, (show (1 : Int32).toInt = zRow s_.toInt o.toInt n.toInt from by (have k9 : (1 : Int32).toInt = 1 := (by decide); unfold zRow; (repeat (first | rw [if_pos (by omega)] | rw [if_neg (by omega)])) <;> omega)), (show zHS g_23 gsh from by exact hHS1), (show ((1 : Int32).toInt = 1 → g_23 = upd ghe s_.toNatClampNeg 1 ∧ g_24 = upd gso s_.toNatClampNeg o ∧ g_25 = upd gsi s_.toNatClampNeg n ∧ ∀ j : Nat, g_26 j = (if 160 * s_.toNatClampNeg ≤ j ∧ j < 160 * s_.toNatClampNeg + 160 then 0 else gce j)) from by (have k9 : (1 : Int32).toInt = 1 := (by decide); intro h; exact ⟨hg_23, hg_24, hg_25, fun j => by (have h9 : i_79.toInt.toNat = 160 := (by omega); have z := hvi_79_0 j; rw [h9] at z; exact z)⟩)), (show ((1 : Int32).toInt ≠ 1 → g_23 = ghe ∧ g_24 = gso ∧ g_25 = gsi ∧ g_26 = gce) from by (have k9 : (1 : Int32).toInt = 1 := (by decide); intro h; exfalso; omega)), trivial⟩, zRet ht hP hD [0, 1, 2, 3, 4, 5, 6] (by decide) rfl⟩, hS.F ht⟩) hS.2.2 dX8_row_108
                · exfalso; have fc_27 : i_79.toInt < 160 := zf_nle c_27 (by decide) rfl; omega
              | succ nfu ih =>
                intro i_79 g_26 H locs ls hP hD hS hl hvi_79_0 hvi_79_1 hloi_79 hni_79
                refine lv_iload hx hb dX8_row_79 (lv_at hl 0 rfl) ?_
                refine lv_sipush (v := 160) hx hb dX8_row_81 (by decide) ?_
                refine lv_icmp_ge (tgt := 107) hx hb dX8_row_84 (by decide) (fun c_28 => ?_) (fun c_28 => ?_)
                · have fc_28 : 160 ≤ i_79.toInt := zf_le c_28 (by decide) rfl
                  refine lv_iconst (v := 1) hx hb dX8_row_107 (by decide) ?_
                  exact W.iret (v := 1) hx hb hr (fun t ht hW => ⟨⟨1, (grf, g_23, g_24, g_25, g_26), rfl, ⟨hpg_23, hpg_24, hpg_25, (show (1 : Int32).toInt = zRow s_.toInt o.toInt n.toInt from by (have k9 : (1 : Int32).toInt = 1 := (by decide); unfold zRow; (repeat (first | rw [if_pos (by omega)] | rw [if_neg (by omega)])) <;> omega)), (show zHS g_23 gsh from by exact hHS1), (show ((1 : Int32).toInt = 1 → g_23 = upd ghe s_.toNatClampNeg 1 ∧ g_24 = upd gso s_.toNatClampNeg o ∧ g_25 = upd gsi s_.toNatClampNeg n ∧ ∀ j : Nat, g_26 j = (if 160 * s_.toNatClampNeg ≤ j ∧ j < 160 * s_.toNatClampNeg + 160 then 0 else gce j)) from by (have k9 : (1 : Int32).toInt = 1 := (by decide); intro h; exact ⟨hg_23, hg_24, hg_25, fun j => by (have h9 : i_79.toInt.toNat = 160 := (by omega); have z := hvi_79_0 j; rw [h9] at z; exact z)⟩)), (show ((1 : Int32).toInt ≠ 1 → g_23 = ghe ∧ g_24 = gso ∧ g_25 = gsi ∧ g_26 = gce) from by (have k9 : (1 : Int32).toInt = 1 := (by decide); intro h; exfalso; omega)), trivial⟩, zRet ht hP hD [0, 1, 2, 3, 4, 5, 6] (by decide) rfl⟩, hS.F ht⟩) hS.2.2 dX8_row_108
                · have fc_28 : i_79.toInt < 160 := zf_nle c_28 (by decide) rfl
                  refine lv_aload_n hx hb dX8_row_87 rfl (lv_at hl 1 rfl) ?_
                  refine va_get (D := D) (ci := 8) (v := .ref mce) (C := RX8) (T := TX8) (N := 38) hx hb hts hi_X8_row_8 hown hK hP 0 rfl rfl 21 (by decide) (hts (.fieldLink RX8 59 "TheLiningsInItModel" "cells" "[J") (List.mem_of_getElem? (i := 4) rfl)) (fun _ h9 => h9) rfl dX8_row_88 ?_
                  refine lv_sipush (v := 160) hx hb dX8_row_91 (by decide) ?_
                  refine lv_iload_n hx hb dX8_row_94 rfl (lv_at hl 2 rfl) ?_
                  refine lv_imul hx hb dX8_row_95 ?_
                  refine lv_topi (fun x_29 ex_29 => ?_)
                  have qx_29 : x_29.toInt = 160 * s_.toInt := by rw [ex_29]; exact zf_mul (by decide) rfl (by omega) (by omega)
                  refine lv_iload hx hb dX8_row_96 (lv_at hl 0 rfl) ?_
                  refine lv_iadd hx hb dX8_row_98 ?_
                  refine lv_topi (fun x_30 ex_30 => ?_)
                  have qx_30 : x_30.toInt = x_29.toInt + i_79.toInt := by rw [ex_30]; exact zf_add rfl rfl (by omega) (by omega)
                  refine lv_lconst (v := 0) hx hb dX8_row_99 (by decide) ?_
                  refine va_last hx hb hK hP hD hS 6 1 rfl rfl (zf_in (by omega) (by omega)) dX8_row_100 (fun H locs hP hD hS => ?_)
                  obtain ⟨g_31, hg_31⟩ : ∃ g : Nat → Int64, g = vp_updL g_26 x_30.toNatClampNeg 0 := ⟨_, rfl⟩
                  rw [← hg_31] at hP hD
                  have h9R := zRe (ws' := [(zMO m0 npu nte nat_ nde nto nse nhu nga nsd nfa mrf mki mpa mta mla msl mco mhe mso msi msh mce mca mwo mnu mte nba npl nen nnu nwr mwa mke mma mth mtr nra nik), (mrf, .inl (cI, 8, .inl grf)), (mhe, .inl (cI, 8, .inl g_23)), (mso, .inl (cI, 8, .inl g_24)), (msi, .inl (cI, 8, .inl g_25)), (msh, .inl (cI, 8, .inl gsh)), (mce, .inl (cJ, 1280, .inr (.inl g_31)))]) hP hD rfl
                  clear hP hD
                  obtain ⟨hP, hD⟩ := h9R
                  obtain ⟨x_32, ex_32⟩ : ∃ y : Int32, y = i_79 + 1 := ⟨_, rfl⟩
                  have qx_32 : x_32.toInt = i_79.toInt + 1 := dw_incK ex_32 fc_28 (by decide)
                  refine lv_iinc (v := x_32) (lv' := [(4, .int x_32), (0, .ref m0), (1, .int s_), (2, .int o), (3, .int n)]) hx hb dX8_row_101 hl (k := 0) rfl ex_32.symm (by decide) rfl (fun ls hl => ?_)
                  refine lv_goto (tgt := 79) hx hb dX8_row_104 (by decide) ?_
                  exact ih x_32 (g_31) _ _ _ (hP.sub [0, 1, 2, 3, 4, 5, 6] rfl) (hD.sub [0, 1, 2, 3, 4, 5, 6] (by decide) rfl) hS (lv_sub hl [0, 1, 2, 3, 4] rfl) (show (∀ j : Nat, g_31 j = (if 160 * s_.toNatClampNeg ≤ j ∧ j < 160 * s_.toNatClampNeg + x_32.toInt.toNat then 0 else gce j)) from by (have hS9 : s_.toNatClampNeg = s_.toInt.toNat := rfl; intro j; rw [hg_31]; simp only [vp_updL]; have h7 : x_30.toNatClampNeg = x_30.toInt.toNat := rfl; by_cases e9 : j = x_30.toNatClampNeg; (rw [if_pos e9, if_pos (by omega)]); (rw [if_neg e9, hvi_79_0 j]; by_cases e8 : 160 * s_.toNatClampNeg ≤ j ∧ j < 160 * s_.toNatClampNeg + i_79.toInt.toNat; (rw [if_pos e8, if_pos (by omega)]); (rw [if_neg e8, if_neg (by omega)])))) (show x_32.toInt ≤ 160 from by omega) (dw_lo hloi_79 qx_32) (dw_hn hni_79 qx_32)
            · have fc_22 : 160 < n.toInt := zf_nle c_22 rfl (by decide)
              refine lv_aload_n hx hb dX8_row_48 rfl (lv_at hl 0 rfl) ?_
              refine lv_bipush (v := (-7)) hx hb dX8_row_49 (by decide) ?_
              skip
              refine zw_V (As := [.int (-7)]) (rest := []) (wr := [(mhe, .inl (cI, 8, .inl ghe)), (mso, .inl (cI, 8, .inl gso)), (msi, .inl (cI, 8, .inl gsi)), (msh, .inl (cI, 8, .inl gsh)), (mce, .inl (cJ, 1280, .inr (.inl gce)))]) ⟨hx, hb, hml, hown, hts⟩ (c_M_no_7 l D cI cJ cZ cP cS po m0 mrf mki mpa mta mla msl mco mhe mso msi msh mce mca mwo mnu mte mwa mke mma mth mtr (npu) (nte) (nat_) (nde) (nto) (nse) (nhu) (nga) (nsd) (nfa) (nba) (npl) (nen) (nnu) (nwr) (nra) (nik) grf hy0 hy1 hy2 hy3 hy4 hy5 hy6 hy7 hy8 hy9 hy10 hy11 hy12 hy13 H.size) (cwV 1 hts gX8_row_X8_no rfl rfl rfl ⟨rfl, dh_X8_no⟩ ⟨Nat.le_of_ble_eq_true rfl, Nat.le_of_ble_eq_true rfl⟩) hK hN (hZ.kept hS) hP hD hS hA [0, 1] [2, 3, 4, 5, 6] rfl rfl (by decide) (by decide) (by decide) (va_recv (q := (RX8, TX8, 38)) hK hP (ci := 8) (q0 := 0) rfl rfl) rfl hl.1 rfl (Nat.le_of_ble_eq_true rfl) dX8_row_51 ⟨Nat.le_of_ble_eq_true rfl, Nat.le_of_ble_eq_true rfl⟩ (fun r_33 u_34 H locs hr_33 hP hD hS => ?_)
              obtain ⟨q_35, rfl⟩ : ∃ z, z = u_34 := ⟨_, rfl⟩
              have h9R := zRe (ws' := [(mhe, .inl (cI, 8, .inl ghe)), (mso, .inl (cI, 8, .inl gso)), (msi, .inl (cI, 8, .inl gsi)), (msh, .inl (cI, 8, .inl gsh)), (mce, .inl (cJ, 1280, .inr (.inl gce))), (zMO m0 npu nte nat_ nde nto nse nhu nga nsd nfa mrf mki mpa mta mla msl mco mhe mso msi msh mce mca mwo mnu mte nba npl nen nnu nwr mwa mke mma mth mtr nra nik), (mrf, .inl (cI, 8, .inl q_35))]) hP hD rfl
              clear hP hD
              obtain ⟨hP, hD⟩ := h9R
              obtain rfl := hr_33
              exact W.iret (v := (-7)) hx hb hr (fun t ht hW => ⟨⟨(-7), (q_35, ghe, gso, gsi, gce), rfl, ⟨hp_ghe, hp_gso, hp_gsi, (show ((-7) : Int32).toInt = zRow s_.toInt o.toInt n.toInt from by (have k9 : ((-7) : Int32).toInt = -7 := (by decide); unfold zRow; (repeat (first | rw [if_pos (by omega)] | rw [if_neg (by omega)])) <;> omega)), (show zHS ghe gsh from by exact hHS), (show (((-7) : Int32).toInt = 1 → ghe = upd ghe s_.toNatClampNeg 1 ∧ gso = upd gso s_.toNatClampNeg o ∧ gsi = upd gsi s_.toNatClampNeg n ∧ ∀ j : Nat, gce j = (if 160 * s_.toNatClampNeg ≤ j ∧ j < 160 * s_.toNatClampNeg + 160 then 0 else gce j)) from by (have k9 : ((-7) : Int32).toInt = -7 := (by decide); intro h; exfalso; omega)), (show (((-7) : Int32).toInt ≠ 1 → ghe = ghe ∧ gso = gso ∧ gsi = gsi ∧ gce = gce) from by (have k9 : ((-7) : Int32).toInt = -7 := (by decide); intro h; exact ⟨rfl, rfl, rfl, rfl⟩)), trivial⟩, zRet ht hP hD [5, 6, 0, 1, 2, 3, 4] (by decide) rfl⟩, hS.F ht⟩) hS.2.2 dX8_row_54
          · have fc_21 : 3 < o.toInt := zf_nle c_21 rfl (by decide)
            refine lv_aload_n hx hb dX8_row_34 rfl (lv_at hl 0 rfl) ?_
            refine lv_bipush (v := (-6)) hx hb dX8_row_35 (by decide) ?_
            skip
            refine zw_V (As := [.int (-6)]) (rest := []) (wr := [(mhe, .inl (cI, 8, .inl ghe)), (mso, .inl (cI, 8, .inl gso)), (msi, .inl (cI, 8, .inl gsi)), (msh, .inl (cI, 8, .inl gsh)), (mce, .inl (cJ, 1280, .inr (.inl gce)))]) ⟨hx, hb, hml, hown, hts⟩ (c_M_no_6 l D cI cJ cZ cP cS po m0 mrf mki mpa mta mla msl mco mhe mso msi msh mce mca mwo mnu mte mwa mke mma mth mtr (npu) (nte) (nat_) (nde) (nto) (nse) (nhu) (nga) (nsd) (nfa) (nba) (npl) (nen) (nnu) (nwr) (nra) (nik) grf hy0 hy1 hy2 hy3 hy4 hy5 hy6 hy7 hy8 hy9 hy10 hy11 hy12 hy13 H.size) (cwV 1 hts gX8_row_X8_no rfl rfl rfl ⟨rfl, dh_X8_no⟩ ⟨Nat.le_of_ble_eq_true rfl, Nat.le_of_ble_eq_true rfl⟩) hK hN (hZ.kept hS) hP hD hS hA [0, 1] [2, 3, 4, 5, 6] rfl rfl (by decide) (by decide) (by decide) (va_recv (q := (RX8, TX8, 38)) hK hP (ci := 8) (q0 := 0) rfl rfl) rfl hl.1 rfl (Nat.le_of_ble_eq_true rfl) dX8_row_37 ⟨Nat.le_of_ble_eq_true rfl, Nat.le_of_ble_eq_true rfl⟩ (fun r_36 u_37 H locs hr_36 hP hD hS => ?_)
            obtain ⟨q_38, rfl⟩ : ∃ z, z = u_37 := ⟨_, rfl⟩
            have h9R := zRe (ws' := [(mhe, .inl (cI, 8, .inl ghe)), (mso, .inl (cI, 8, .inl gso)), (msi, .inl (cI, 8, .inl gsi)), (msh, .inl (cI, 8, .inl gsh)), (mce, .inl (cJ, 1280, .inr (.inl gce))), (zMO m0 npu nte nat_ nde nto nse nhu nga nsd nfa mrf mki mpa mta mla msl mco mhe mso msi msh mce mca mwo mnu mte nba npl nen nnu nwr mwa mke mma mth mtr nra nik), (mrf, .inl (cI, 8, .inl q_38))]) hP hD rfl
            clear hP hD
            obtain ⟨hP, hD⟩ := h9R
            obtain rfl := hr_36
            exact W.iret (v := (-6)) hx hb hr (fun t ht hW => ⟨⟨(-6), (q_38, ghe, gso, gsi, gce), rfl, ⟨hp_ghe, hp_gso, hp_gsi, (show ((-6) : Int32).toInt = zRow s_.toInt o.toInt n.toInt from by (have k9 : ((-6) : Int32).toInt = -6 := (by decide); unfold zRow; (repeat (first | rw [if_pos (by omega)] | rw [if_neg (by omega)])) <;> omega)), (show zHS ghe gsh from by exact hHS), (show (((-6) : Int32).toInt = 1 → ghe = upd ghe s_.toNatClampNeg 1 ∧ gso = upd gso s_.toNatClampNeg o ∧ gsi = upd gsi s_.toNatClampNeg n ∧ ∀ j : Nat, gce j = (if 160 * s_.toNatClampNeg ≤ j ∧ j < 160 * s_.toNatClampNeg + 160 then 0 else gce j)) from by (have k9 : ((-6) : Int32).toInt = -6 := (by decide); intro h; exfalso; omega)), (show (((-6) : Int32).toInt ≠ 1 → ghe = ghe ∧ gso = gso ∧ gsi = gsi ∧ gce = gce) from by (have k9 : ((-6) : Int32).toInt = -6 := (by decide); intro h; exact ⟨rfl, rfl, rfl, rfl⟩)), trivial⟩, zRet ht hP hD [5, 6, 0, 1, 2, 3, 4] (by decide) rfl⟩, hS.F ht⟩) hS.2.2 dX8_row_40
      · have fc_16 : n.toInt < 0 := zf_nle c_16 (by decide) rfl
        refine lv_aload_n hx hb dX8_row_18 rfl (lv_at hl 0 rfl) ?_
        refine lv_bipush (v := (-4)) hx hb dX8_row_19 (by decide) ?_
        skip
        refine zw_V (As := [.int (-4)]) (rest := []) (wr := [(mhe, .inl (cI, 8, .inl ghe)), (mso, .inl (cI, 8, .inl gso)), (msi, .inl (cI, 8, .inl gsi)), (msh, .inl (cI, 8, .inl gsh)), (mce, .inl (cJ, 1280, .inr (.inl gce)))]) ⟨hx, hb, hml, hown, hts⟩ (c_M_no_4 l D cI cJ cZ cP cS po m0 mrf mki mpa mta mla msl mco mhe mso msi msh mce mca mwo mnu mte mwa mke mma mth mtr (npu) (nte) (nat_) (nde) (nto) (nse) (nhu) (nga) (nsd) (nfa) (nba) (npl) (nen) (nnu) (nwr) (nra) (nik) grf hy0 hy1 hy2 hy3 hy4 hy5 hy6 hy7 hy8 hy9 hy10 hy11 hy12 hy13 H.size) (cwV 1 hts gX8_row_X8_no rfl rfl rfl ⟨rfl, dh_X8_no⟩ ⟨Nat.le_of_ble_eq_true rfl, Nat.le_of_ble_eq_true rfl⟩) hK hN (hZ.kept hS) hP hD hS hA [0, 1] [2, 3, 4, 5, 6] rfl rfl (by decide) (by decide) (by decide) (va_recv (q := (RX8, TX8, 38)) hK hP (ci := 8) (q0 := 0) rfl rfl) rfl hl.1 rfl (Nat.le_of_ble_eq_true rfl) dX8_row_21 ⟨Nat.le_of_ble_eq_true rfl, Nat.le_of_ble_eq_true rfl⟩ (fun r_39 u_40 H locs hr_39 hP hD hS => ?_)
        obtain ⟨q_41, rfl⟩ : ∃ z, z = u_40 := ⟨_, rfl⟩
        have h9R := zRe (ws' := [(mhe, .inl (cI, 8, .inl ghe)), (mso, .inl (cI, 8, .inl gso)), (msi, .inl (cI, 8, .inl gsi)), (msh, .inl (cI, 8, .inl gsh)), (mce, .inl (cJ, 1280, .inr (.inl gce))), (zMO m0 npu nte nat_ nde nto nse nhu nga nsd nfa mrf mki mpa mta mla msl mco mhe mso msi msh mce mca mwo mnu mte nba npl nen nnu nwr mwa mke mma mth mtr nra nik), (mrf, .inl (cI, 8, .inl q_41))]) hP hD rfl
        clear hP hD
        obtain ⟨hP, hD⟩ := h9R
        obtain rfl := hr_39
        exact W.iret (v := (-4)) hx hb hr (fun t ht hW => ⟨⟨(-4), (q_41, ghe, gso, gsi, gce), rfl, ⟨hp_ghe, hp_gso, hp_gsi, (show ((-4) : Int32).toInt = zRow s_.toInt o.toInt n.toInt from by (have k9 : ((-4) : Int32).toInt = -4 := (by decide); unfold zRow; (repeat (first | rw [if_pos (by omega)] | rw [if_neg (by omega)])) <;> omega)), (show zHS ghe gsh from by exact hHS), (show (((-4) : Int32).toInt = 1 → ghe = upd ghe s_.toNatClampNeg 1 ∧ gso = upd gso s_.toNatClampNeg o ∧ gsi = upd gsi s_.toNatClampNeg n ∧ ∀ j : Nat, gce j = (if 160 * s_.toNatClampNeg ≤ j ∧ j < 160 * s_.toNatClampNeg + 160 then 0 else gce j)) from by (have k9 : ((-4) : Int32).toInt = -4 := (by decide); intro h; exfalso; omega)), (show (((-4) : Int32).toInt ≠ 1 → ghe = ghe ∧ gso = gso ∧ gsi = gsi ∧ gce = gce) from by (have k9 : ((-4) : Int32).toInt = -4 := (by decide); intro h; exact ⟨rfl, rfl, rfl, rfl⟩)), trivial⟩, zRet ht hP hD [5, 6, 0, 1, 2, 3, 4] (by decide) rfl⟩, hS.F ht⟩) hS.2.2 dX8_row_24
    · exact absurd c_15 (by decide)
set_option maxHeartbeats 4000000 in
set_option maxRecDepth 100000 in
theorem c_F_M_set (l : Launch) (D : va_G) (cI cJ cZ cP cS : ClassId) (po : zPool) (m0 mrf mki mpa mta mla msl mco mhe mso msi msh mce mca mwo mnu mte mwa mke mma mth mtr : Nat) (npu nte nat_ nde nto nse nhu nga nsd nfa nba npl nen nnu nwr nra nik : Int32) (grf ghe gso gsi : Nat → Int32) (gce : Nat → Int64) (s_ i : Int32) (v : Int64) (hy0 : 0 ≤ npu.toInt) (hy1 : npu.toInt ≤ 8) (hy2 : 4 ≤ nte.toInt) (hy3 : nte.toInt ≤ 40) (hy4 : 0 ≤ nat_.toInt) (hy5 : nat_.toInt ≤ 40) (hy6 : 0 ≤ nde.toInt) (hy7 : nde.toInt ≤ 24) (hy8 : 0 ≤ nhu.toInt) (hy9 : nhu.toInt ≤ 9) (hy10 : 0 ≤ nra.toInt) (hy11 : nra.toInt ≤ 2000) (hy12 : 0 ≤ nik.toInt) (hy13 : nik.toInt ≤ 1) (hp_ghe : zRg ghe (0) 2) (hp_gso : zRg gso (0) 3) (hp_gsi : zRg gsi (0) 160) (hpz : Nat) : Met l yX8_set wsX8_set ({ frames := 1, cells := 0, slots := 0, locals := 21 }) (va_Pc [.ref m0, .int s_, .int i, .long v] (zW D (zKT cI cJ cZ cP cS) po [(zMO m0 npu nte nat_ nde nto nse nhu nga nsd nfa mrf mki mpa mta mla msl mco mhe mso msi msh mce mca mwo mnu mte nba npl nen nnu nwr mwa mke mma mth mtr nra nik), (mrf, .inl (cI, 8, .inl grf)), (mhe, .inl (cI, 8, .inl ghe)), (mso, .inl (cI, 8, .inl gso)), (msi, .inl (cI, 8, .inl gsi)), (mce, .inl (cJ, 1280, .inr (.inl gce)))] hpz)) (va_Qi (fun (r : Int32) (u : (Nat → Int32) × (Nat → Int64)) => (r.toInt = zSetR s_.toInt (zHc (ghe s_.toNatClampNeg).toInt) (gsi s_.toNatClampNeg).toInt i.toInt) ∧ ((r.toInt = 1 → u.2 = vp_updL gce (160 * s_.toInt + i.toInt).toNat (zNar (gso s_.toNatClampNeg).toInt v))) ∧ ((r.toInt ≠ 1 → u.2 = gce)) ∧ (True)) (zB D [(zMO m0 npu nte nat_ nde nto nse nhu nga nsd nfa mrf mki mpa mta mla msl mco mhe mso msi msh mce mca mwo mnu mte nba npl nen nnu nwr mwa mke mma mth mtr nra nik), (mrf, .inl (cI, 8, .inl grf)), (mhe, .inl (cI, 8, .inl ghe)), (mso, .inl (cI, 8, .inl gso)), (msi, .inl (cI, 8, .inl gsi)), (mce, .inl (cJ, 1280, .inr (.inl gce)))] hpz (fun (u : (Nat → Int32) × (Nat → Int64)) => [(zMO m0 npu nte nat_ nde nto nse nhu nga nsd nfa mrf mki mpa mta mla msl mco mhe mso msi msh mce mca mwo mnu mte nba npl nen nnu nwr mwa mke mma mth mtr nra nik), (mrf, .inl (cI, 8, .inl u.1)), (mhe, .inl (cI, 8, .inl ghe)), (mso, .inl (cI, 8, .inl gso)), (msi, .inl (cI, 8, .inl gsi)), (mce, .inl (cJ, 1280, .inr (.inl u.2)))])) (va_A [(zMO m0 npu nte nat_ nde nto nse nhu nga nsd nfa mrf mki mpa mta mla msl mco mhe mso msi msh mce mca mwo mnu mte nba npl nen nnu nwr mwa mke mma mth mtr nra nik), (mrf, .inl (cI, 8, .inl grf)), (mhe, .inl (cI, 8, .inl ghe)), (mso, .inl (cI, 8, .inl gso)), (msi, .inl (cI, 8, .inl gsi)), (mce, .inl (cJ, 1280, .inr (.inl gce)))] hpz)) 0 0 (va_A [(zMO m0 npu nte nat_ nde nto nse nhu nga nsd nfa mrf mki mpa mta mla msl mco mhe mso msi msh mce mca mwo mnu mte nba npl nen nnu nwr mwa mke mma mth mtr nra nik), (mrf, .inl (cI, 8, .inl grf)), (mhe, .inl (cI, 8, .inl ghe)), (mso, .inl (cI, 8, .inl gso)), (msi, .inl (cI, 8, .inl gsi)), (mce, .inl (cJ, 1280, .inr (.inl gce)))] hpz) := by
  refine Met.ofW (cc := cX8_set) (maxL := 5) (ret := (some .int)) (by decide) rfl ?_
  intro p e s m args below meth c s₁ B hml hv
  obtain ⟨rfl, hsz, hP, hK, hD0, hN, hZ⟩ := hv
  have hx := B.exec
  have hb := B.bytes
  have hr := B.returns
  have hts := atoms_spec (ws := wsX8_set) B.pre
  have hown : s.vm.findClass RX8 = some m.cls := findClass_of_methodNamed B.named
  have hlocks := B.notSynchronized
  subst hsz
  have hD := hD0.self (sz := s.heap.size)
  have hA := zA_of hD
  have hl := lv_entry ([.ref m0, .int s_, .int i, .long v]) (n := 5) (Nat.le_of_ble_eq_true rfl)
  rw [lg_entry_eq]
  generalize (lg_sl ([.ref m0, .int s_, .int i, .long v]) ++ List.replicate (5 - (lg_sl ([.ref m0, .int s_, .int i, .long v])).length) Slot.unset).toArray = ls at hl ⊢
  replace hl : lv_has ls 5 [(0, .ref m0), (1, .int s_), (2, .int i), (3, .long v)] := hl
  refine zw_begin hP hD (fun H locs hP1 hS => ?_)
  clear hP
  have hP := hP1
  clear hP1
  refine lv_aload_n hx hb dX8_set_0 rfl (lv_at hl 0 rfl) ?_
  refine lv_iload_n hx hb dX8_set_1 rfl (lv_at hl 1 rfl) ?_
  refine zc_V (As := [.int s_]) (rest := []) ⟨hx, hb, hml, hown, hts⟩ (c_M_isShelf l D cI cJ cZ cP cS po m0 mrf mki mpa mta mla msl mco mhe mso msi msh mce mca mwo mnu mte mwa mke mma mth mtr (npu) (nte) (nat_) (nde) (nto) (nse) (nhu) (nga) (nsd) (nfa) (nba) (npl) (nen) (nnu) (nwr) (nra) (nik) (s_) hy0 hy1 hy2 hy3 hy4 hy5 hy6 hy7 hy8 hy9 hy10 hy11 hy12 hy13) (cwV 1 hts gX8_set_X8_isShelf rfl rfl rfl ⟨rfl, dh_X8_isShelf⟩ ⟨Nat.le_of_ble_eq_true rfl, Nat.le_of_ble_eq_true rfl⟩) hK hN (hZ.kept hS) hP (hP.sub [0] rfl) (va_recv (q := (RX8, TX8, 38)) hK hP (ci := 8) (q0 := 0) rfl rfl) rfl hl.1 rfl (Nat.le_of_ble_eq_true rfl) dX8_set_2 ⟨Nat.le_of_ble_eq_true rfl, Nat.le_of_ble_eq_true rfl⟩ (fun r_1 hr_1 => ?_)
  rcases hr_1 with ⟨rfl, g_2⟩ | ⟨rfl, g_3, g_4⟩ | ⟨rfl, g_5, g_6⟩
  · refine lv_if_ne (tgt := 14) hx hb dX8_set_5 (by decide) (fun c_7 => ?_) (fun c_7 => ?_)
    · exact absurd c_7 (by decide)
    · refine lv_aload_n hx hb dX8_set_8 rfl (lv_at hl 0 rfl) ?_
      refine lv_iconst (v := (-1)) hx hb dX8_set_9 (by decide) ?_
      skip
      refine zw_V (As := [.int (-1)]) (rest := []) (wr := [(mhe, .inl (cI, 8, .inl ghe)), (mso, .inl (cI, 8, .inl gso)), (msi, .inl (cI, 8, .inl gsi)), (mce, .inl (cJ, 1280, .inr (.inl gce)))]) ⟨hx, hb, hml, hown, hts⟩ (c_M_no_1 l D cI cJ cZ cP cS po m0 mrf mki mpa mta mla msl mco mhe mso msi msh mce mca mwo mnu mte mwa mke mma mth mtr (npu) (nte) (nat_) (nde) (nto) (nse) (nhu) (nga) (nsd) (nfa) (nba) (npl) (nen) (nnu) (nwr) (nra) (nik) grf hy0 hy1 hy2 hy3 hy4 hy5 hy6 hy7 hy8 hy9 hy10 hy11 hy12 hy13 H.size) (cwV 1 hts gX8_set_X8_no rfl rfl rfl ⟨rfl, dh_X8_no⟩ ⟨Nat.le_of_ble_eq_true rfl, Nat.le_of_ble_eq_true rfl⟩) hK hN (hZ.kept hS) hP hD hS hA [0, 1] [2, 3, 4, 5] rfl rfl (by decide) (by decide) (by decide) (va_recv (q := (RX8, TX8, 38)) hK hP (ci := 8) (q0 := 0) rfl rfl) rfl hl.1 rfl (Nat.le_of_ble_eq_true rfl) dX8_set_10 ⟨Nat.le_of_ble_eq_true rfl, Nat.le_of_ble_eq_true rfl⟩ (fun r_8 u_9 H locs hr_8 hP hD hS => ?_)
      obtain ⟨q_10, rfl⟩ : ∃ z, z = u_9 := ⟨_, rfl⟩
      have h9R := zRe (ws' := [(mhe, .inl (cI, 8, .inl ghe)), (mso, .inl (cI, 8, .inl gso)), (msi, .inl (cI, 8, .inl gsi)), (mce, .inl (cJ, 1280, .inr (.inl gce))), (zMO m0 npu nte nat_ nde nto nse nhu nga nsd nfa mrf mki mpa mta mla msl mco mhe mso msi msh mce mca mwo mnu mte nba npl nen nnu nwr mwa mke mma mth mtr nra nik), (mrf, .inl (cI, 8, .inl q_10))]) hP hD rfl
      clear hP hD
      obtain ⟨hP, hD⟩ := h9R
      obtain rfl := hr_8
      exact W.iret (v := (-1)) hx hb hr (fun t ht hW => ⟨⟨(-1), (q_10, gce), rfl, ⟨(show ((-1) : Int32).toInt = zSetR s_.toInt (zHc (ghe s_.toNatClampNeg).toInt) (gsi s_.toNatClampNeg).toInt i.toInt from by (have k9 : ((-1) : Int32).toInt = -1 := (by decide); unfold zSetR zHc; (repeat (first | rw [if_pos (by omega)] | rw [if_neg (by omega)])) <;> omega)), (show (((-1) : Int32).toInt = 1 → gce = vp_updL gce (160 * s_.toInt + i.toInt).toNat (zNar (gso s_.toNatClampNeg).toInt v)) from by (have k9 : ((-1) : Int32).toInt = -1 := (by decide); intro h; exfalso; omega)), (show (((-1) : Int32).toInt ≠ 1 → gce = gce) from by (have k9 : ((-1) : Int32).toInt = -1 := (by decide); intro h; exact rfl)), trivial⟩, zRet ht hP hD [4, 5, 0, 1, 2, 3] (by decide) rfl⟩, hS.F ht⟩) hS.2.2 dX8_set_13
  · refine lv_if_ne (tgt := 14) hx hb dX8_set_5 (by decide) (fun c_11 => ?_) (fun c_11 => ?_)
    · exact absurd c_11 (by decide)
    · refine lv_aload_n hx hb dX8_set_8 rfl (lv_at hl 0 rfl) ?_
      refine lv_iconst (v := (-1)) hx hb dX8_set_9 (by decide) ?_
      skip
      refine zw_V (As := [.int (-1)]) (rest := []) (wr := [(mhe, .inl (cI, 8, .inl ghe)), (mso, .inl (cI, 8, .inl gso)), (msi, .inl (cI, 8, .inl gsi)), (mce, .inl (cJ, 1280, .inr (.inl gce)))]) ⟨hx, hb, hml, hown, hts⟩ (c_M_no_1 l D cI cJ cZ cP cS po m0 mrf mki mpa mta mla msl mco mhe mso msi msh mce mca mwo mnu mte mwa mke mma mth mtr (npu) (nte) (nat_) (nde) (nto) (nse) (nhu) (nga) (nsd) (nfa) (nba) (npl) (nen) (nnu) (nwr) (nra) (nik) grf hy0 hy1 hy2 hy3 hy4 hy5 hy6 hy7 hy8 hy9 hy10 hy11 hy12 hy13 H.size) (cwV 1 hts gX8_set_X8_no rfl rfl rfl ⟨rfl, dh_X8_no⟩ ⟨Nat.le_of_ble_eq_true rfl, Nat.le_of_ble_eq_true rfl⟩) hK hN (hZ.kept hS) hP hD hS hA [0, 1] [2, 3, 4, 5] rfl rfl (by decide) (by decide) (by decide) (va_recv (q := (RX8, TX8, 38)) hK hP (ci := 8) (q0 := 0) rfl rfl) rfl hl.1 rfl (Nat.le_of_ble_eq_true rfl) dX8_set_10 ⟨Nat.le_of_ble_eq_true rfl, Nat.le_of_ble_eq_true rfl⟩ (fun r_12 u_13 H locs hr_12 hP hD hS => ?_)
      obtain ⟨q_14, rfl⟩ : ∃ z, z = u_13 := ⟨_, rfl⟩
      have h9R := zRe (ws' := [(mhe, .inl (cI, 8, .inl ghe)), (mso, .inl (cI, 8, .inl gso)), (msi, .inl (cI, 8, .inl gsi)), (mce, .inl (cJ, 1280, .inr (.inl gce))), (zMO m0 npu nte nat_ nde nto nse nhu nga nsd nfa mrf mki mpa mta mla msl mco mhe mso msi msh mce mca mwo mnu mte nba npl nen nnu nwr mwa mke mma mth mtr nra nik), (mrf, .inl (cI, 8, .inl q_14))]) hP hD rfl
      clear hP hD
      obtain ⟨hP, hD⟩ := h9R
      obtain rfl := hr_12
      exact W.iret (v := (-1)) hx hb hr (fun t ht hW => ⟨⟨(-1), (q_14, gce), rfl, ⟨(show ((-1) : Int32).toInt = zSetR s_.toInt (zHc (ghe s_.toNatClampNeg).toInt) (gsi s_.toNatClampNeg).toInt i.toInt from by (have k9 : ((-1) : Int32).toInt = -1 := (by decide); unfold zSetR zHc; (repeat (first | rw [if_pos (by omega)] | rw [if_neg (by omega)])) <;> omega)), (show (((-1) : Int32).toInt = 1 → gce = vp_updL gce (160 * s_.toInt + i.toInt).toNat (zNar (gso s_.toNatClampNeg).toInt v)) from by (have k9 : ((-1) : Int32).toInt = -1 := (by decide); intro h; exfalso; omega)), (show (((-1) : Int32).toInt ≠ 1 → gce = gce) from by (have k9 : ((-1) : Int32).toInt = -1 := (by decide); intro h; exact rfl)), trivial⟩, zRet ht hP hD [4, 5, 0, 1, 2, 3] (by decide) rfl⟩, hS.F ht⟩) hS.2.2 dX8_set_13
  · refine lv_if_ne (tgt := 14) hx hb dX8_set_5 (by decide) (fun c_15 => ?_) (fun c_15 => ?_)
    · refine lv_aload_n hx hb dX8_set_14 rfl (lv_at hl 0 rfl) ?_
      refine va_get (D := D) (ci := 8) (v := .ref mhe) (C := RX8) (T := TX8) (N := 38) hx hb hts hi_X8_set_8 hown hK hP 0 rfl rfl 17 (by decide) (hts (.fieldLink RX8 47 "TheLiningsInItModel" "held" "[I") (List.mem_of_getElem? (i := 1) rfl)) (fun _ h9 => h9) rfl dX8_set_15 ?_
      refine lv_iload_n hx hb dX8_set_18 rfl (lv_at hl 1 rfl) ?_
      refine va_iald hx hb hK hP 2 0 rfl rfl (zf_in (by omega) (by omega)) dX8_set_19 ?_
      refine lv_topi (fun x_16 ex_16 => ?_)
      have bx_16 : 0 ≤ x_16.toInt ∧ x_16.toInt ≤ 2 := by rw [ex_16]; exact hp_ghe _
      refine lv_iconst (v := 2) hx hb dX8_set_20 (by decide) ?_
      refine lv_icmp_ne (tgt := 31) hx hb dX8_set_21 (by decide) (fun c_17 => ?_) (fun c_17 => ?_)
      · have fc_17 : x_16.toInt ≠ 2 := zf_ne c_17 rfl (by decide)
        refine lv_aload_n hx hb dX8_set_31 rfl (lv_at hl 0 rfl) ?_
        refine va_get (D := D) (ci := 8) (v := .ref mhe) (C := RX8) (T := TX8) (N := 38) hx hb hts hi_X8_set_8 hown hK hP 0 rfl rfl 17 (by decide) (hts (.fieldLink RX8 47 "TheLiningsInItModel" "held" "[I") (List.mem_of_getElem? (i := 1) rfl)) (fun _ h9 => h9) rfl dX8_set_32 ?_
        refine lv_iload_n hx hb dX8_set_35 rfl (lv_at hl 1 rfl) ?_
        refine va_iald hx hb hK hP 2 0 rfl rfl (zf_in (by omega) (by omega)) dX8_set_36 ?_
        refine lv_topi (fun y_18 ey_18 => ?_)
        obtain rfl : x_16 = y_18 := ex_16.trans ey_18.symm
        refine lv_if_ne (tgt := 47) hx hb dX8_set_37 (by decide) (fun c_19 => ?_) (fun c_19 => ?_)
        · have fc_19 : x_16.toInt ≠ 0 := zf_ne c_19 rfl (by decide)
          refine lv_iload_n hx hb dX8_set_47 rfl (lv_at hl 2 rfl) ?_
          refine lv_if_lt (tgt := 61) hx hb dX8_set_48 (by decide) (fun c_20 => ?_) (fun c_20 => ?_)
          · have fc_20 : i.toInt < 0 := zf_lt c_20 rfl (by decide)
            refine lv_aload_n hx hb dX8_set_61 rfl (lv_at hl 0 rfl) ?_
            refine lv_bipush (v := (-5)) hx hb dX8_set_62 (by decide) ?_
            skip
            refine zw_V (As := [.int (-5)]) (rest := []) (wr := [(mhe, .inl (cI, 8, .inl ghe)), (mso, .inl (cI, 8, .inl gso)), (msi, .inl (cI, 8, .inl gsi)), (mce, .inl (cJ, 1280, .inr (.inl gce)))]) ⟨hx, hb, hml, hown, hts⟩ (c_M_no_5 l D cI cJ cZ cP cS po m0 mrf mki mpa mta mla msl mco mhe mso msi msh mce mca mwo mnu mte mwa mke mma mth mtr (npu) (nte) (nat_) (nde) (nto) (nse) (nhu) (nga) (nsd) (nfa) (nba) (npl) (nen) (nnu) (nwr) (nra) (nik) grf hy0 hy1 hy2 hy3 hy4 hy5 hy6 hy7 hy8 hy9 hy10 hy11 hy12 hy13 H.size) (cwV 1 hts gX8_set_X8_no rfl rfl rfl ⟨rfl, dh_X8_no⟩ ⟨Nat.le_of_ble_eq_true rfl, Nat.le_of_ble_eq_true rfl⟩) hK hN (hZ.kept hS) hP hD hS hA [0, 1] [2, 3, 4, 5] rfl rfl (by decide) (by decide) (by decide) (va_recv (q := (RX8, TX8, 38)) hK hP (ci := 8) (q0 := 0) rfl rfl) rfl hl.1 rfl (Nat.le_of_ble_eq_true rfl) dX8_set_64 ⟨Nat.le_of_ble_eq_true rfl, Nat.le_of_ble_eq_true rfl⟩ (fun r_21 u_22 H locs hr_21 hP hD hS => ?_)
            obtain ⟨q_23, rfl⟩ : ∃ z, z = u_22 := ⟨_, rfl⟩
            have h9R := zRe (ws' := [(mhe, .inl (cI, 8, .inl ghe)), (mso, .inl (cI, 8, .inl gso)), (msi, .inl (cI, 8, .inl gsi)), (mce, .inl (cJ, 1280, .inr (.inl gce))), (zMO m0 npu nte nat_ nde nto nse nhu nga nsd nfa mrf mki mpa mta mla msl mco mhe mso msi msh mce mca mwo mnu mte nba npl nen nnu nwr mwa mke mma mth mtr nra nik), (mrf, .inl (cI, 8, .inl q_23))]) hP hD rfl
            clear hP hD
            obtain ⟨hP, hD⟩ := h9R
            obtain rfl := hr_21
            exact W.iret (v := (-5)) hx hb hr (fun t ht hW => ⟨⟨(-5), (q_23, gce), rfl, ⟨(show ((-5) : Int32).toInt = zSetR s_.toInt (zHc (ghe s_.toNatClampNeg).toInt) (gsi s_.toNatClampNeg).toInt i.toInt from by (have k9 : ((-5) : Int32).toInt = -5 := (by decide); (try rw [← ex_16]); unfold zSetR zHc; (repeat (first | rw [if_pos (by omega)] | rw [if_neg (by omega)])) <;> omega)), (show (((-5) : Int32).toInt = 1 → gce = vp_updL gce (160 * s_.toInt + i.toInt).toNat (zNar (gso s_.toNatClampNeg).toInt v)) from by (have k9 : ((-5) : Int32).toInt = -5 := (by decide); intro h; exfalso; omega)), (show (((-5) : Int32).toInt ≠ 1 → gce = gce) from by (have k9 : ((-5) : Int32).toInt = -5 := (by decide); intro h; exact rfl)), trivial⟩, zRet ht hP hD [4, 5, 0, 1, 2, 3] (by decide) rfl⟩, hS.F ht⟩) hS.2.2 dX8_set_67
          · have fc_20 : 0 ≤ i.toInt := zf_nlt c_20 rfl (by decide)
            refine lv_iload_n hx hb dX8_set_51 rfl (lv_at hl 2 rfl) ?_
            refine lv_aload_n hx hb dX8_set_52 rfl (lv_at hl 0 rfl) ?_
            refine va_get (D := D) (ci := 8) (v := .ref msi) (C := RX8) (T := TX8) (N := 38) hx hb hts hi_X8_set_8 hown hK hP 0 rfl rfl 19 (by decide) (hts (.fieldLink RX8 53 "TheLiningsInItModel" "size" "[I") (List.mem_of_getElem? (i := 2) rfl)) (fun _ h9 => h9) rfl dX8_set_53 ?_
            refine lv_iload_n hx hb dX8_set_56 rfl (lv_at hl 1 rfl) ?_
            refine va_iald hx hb hK hP 4 0 rfl rfl (zf_in (by omega) (by omega)) dX8_set_57 ?_
            refine lv_topi (fun x_24 ex_24 => ?_)
            have bx_24 : 0 ≤ x_24.toInt ∧ x_24.toInt ≤ 160 := by rw [ex_24]; exact hp_gsi _
            refine lv_icmp_lt (tgt := 68) hx hb dX8_set_58 (by decide) (fun c_25 => ?_) (fun c_25 => ?_)
            · have fc_25 : i.toInt < x_24.toInt := zf_lt c_25 rfl rfl
              refine lv_aload_n hx hb dX8_set_68 rfl (lv_at hl 0 rfl) ?_
              refine va_get (D := D) (ci := 8) (v := .ref mce) (C := RX8) (T := TX8) (N := 38) hx hb hts hi_X8_set_8 hown hK hP 0 rfl rfl 21 (by decide) (hts (.fieldLink RX8 59 "TheLiningsInItModel" "cells" "[J") (List.mem_of_getElem? (i := 3) rfl)) (fun _ h9 => h9) rfl dX8_set_69 ?_
              refine lv_sipush (v := 160) hx hb dX8_set_72 (by decide) ?_
              refine lv_iload_n hx hb dX8_set_75 rfl (lv_at hl 1 rfl) ?_
              refine lv_imul hx hb dX8_set_76 ?_
              refine lv_topi (fun x_26 ex_26 => ?_)
              have qx_26 : x_26.toInt = 160 * s_.toInt := by rw [ex_26]; exact zf_mul (by decide) rfl (by omega) (by omega)
              refine lv_iload_n hx hb dX8_set_77 rfl (lv_at hl 2 rfl) ?_
              refine lv_iadd hx hb dX8_set_78 ?_
              refine lv_topi (fun x_27 ex_27 => ?_)
              have qx_27 : x_27.toInt = x_26.toInt + i.toInt := by rw [ex_27]; exact zf_add rfl rfl (by omega) (by omega)
              refine lv_aload_n hx hb dX8_set_79 rfl (lv_at hl 0 rfl) ?_
              refine va_get (D := D) (ci := 8) (v := .ref mso) (C := RX8) (T := TX8) (N := 38) hx hb hts hi_X8_set_8 hown hK hP 0 rfl rfl 18 (by decide) (hts (.fieldLink RX8 50 "TheLiningsInItModel" "sort" "[I") (List.mem_of_getElem? (i := 4) rfl)) (fun _ h9 => h9) rfl dX8_set_80 ?_
              refine lv_iload_n hx hb dX8_set_83 rfl (lv_at hl 1 rfl) ?_
              refine va_iald hx hb hK hP 3 0 rfl rfl (zf_in (by omega) (by omega)) dX8_set_84 ?_
              refine lv_topi (fun x_28 ex_28 => ?_)
              have bx_28 : 0 ≤ x_28.toInt ∧ x_28.toInt ≤ 3 := by rw [ex_28]; exact hp_gso _
              refine lv_if_ne (tgt := 95) hx hb dX8_set_85 (by decide) (fun c_29 => ?_) (fun c_29 => ?_)
              · have fc_29 : x_28.toInt ≠ 0 := zf_ne c_29 rfl (by decide)
                refine lv_aload_n hx hb dX8_set_95 rfl (lv_at hl 0 rfl) ?_
                refine va_get (D := D) (ci := 8) (v := .ref mso) (C := RX8) (T := TX8) (N := 38) hx hb hts hi_X8_set_8 hown hK hP 0 rfl rfl 18 (by decide) (hts (.fieldLink RX8 50 "TheLiningsInItModel" "sort" "[I") (List.mem_of_getElem? (i := 4) rfl)) (fun _ h9 => h9) rfl dX8_set_96 ?_
                refine lv_iload_n hx hb dX8_set_99 rfl (lv_at hl 1 rfl) ?_
                refine va_iald hx hb hK hP 3 0 rfl rfl (zf_in (by omega) (by omega)) dX8_set_100 ?_
                refine lv_topi (fun y_30 ey_30 => ?_)
                obtain rfl : x_28 = y_30 := ex_28.trans ey_30.symm
                refine lv_iconst (v := 1) hx hb dX8_set_101 (by decide) ?_
                refine lv_icmp_ne (tgt := 112) hx hb dX8_set_102 (by decide) (fun c_31 => ?_) (fun c_31 => ?_)
                · have fc_31 : x_28.toInt ≠ 1 := zf_ne c_31 rfl (by decide)
                  refine lv_aload_n hx hb dX8_set_112 rfl (lv_at hl 0 rfl) ?_
                  refine va_get (D := D) (ci := 8) (v := .ref mso) (C := RX8) (T := TX8) (N := 38) hx hb hts hi_X8_set_8 hown hK hP 0 rfl rfl 18 (by decide) (hts (.fieldLink RX8 50 "TheLiningsInItModel" "sort" "[I") (List.mem_of_getElem? (i := 4) rfl)) (fun _ h9 => h9) rfl dX8_set_113 ?_
                  refine lv_iload_n hx hb dX8_set_116 rfl (lv_at hl 1 rfl) ?_
                  refine va_iald hx hb hK hP 3 0 rfl rfl (zf_in (by omega) (by omega)) dX8_set_117 ?_
                  refine lv_topi (fun y_32 ey_32 => ?_)
                  obtain rfl : x_28 = y_32 := ex_28.trans ey_32.symm
                  refine lv_iconst (v := 2) hx hb dX8_set_118 (by decide) ?_
                  refine lv_icmp_ne (tgt := 128) hx hb dX8_set_119 (by decide) (fun c_33 => ?_) (fun c_33 => ?_)
                  · have fc_33 : x_28.toInt ≠ 2 := zf_ne c_33 rfl (by decide)
                    refine lv_lload_n hx hb dX8_set_128 rfl (lv_at hl 3 rfl) ?_
                    refine va_last hx hb hK hP hD hS 5 1 rfl rfl (zf_in (by omega) (by omega)) dX8_set_129 (fun H locs hP hD hS => ?_)
                    obtain ⟨g_34, hg_34⟩ : ∃ g : Nat → Int64, g = vp_updL gce x_27.toNatClampNeg v := ⟨_, rfl⟩
                    rw [← hg_34] at hP hD
                    have h9R := zRe (ws' := [(zMO m0 npu nte nat_ nde nto nse nhu nga nsd nfa mrf mki mpa mta mla msl mco mhe mso msi msh mce mca mwo mnu mte nba npl nen nnu nwr mwa mke mma mth mtr nra nik), (mrf, .inl (cI, 8, .inl grf)), (mhe, .inl (cI, 8, .inl ghe)), (mso, .inl (cI, 8, .inl gso)), (msi, .inl (cI, 8, .inl gsi)), (mce, .inl (cJ, 1280, .inr (.inl g_34)))]) hP hD rfl
                    clear hP hD
                    obtain ⟨hP, hD⟩ := h9R
                    refine lv_iconst (v := 1) hx hb dX8_set_130 (by decide) ?_
                    exact W.iret (v := 1) hx hb hr (fun t ht hW => ⟨⟨1, (grf, g_34), rfl, ⟨(show (1 : Int32).toInt = zSetR s_.toInt (zHc (ghe s_.toNatClampNeg).toInt) (gsi s_.toNatClampNeg).toInt i.toInt from by (have k9 : (1 : Int32).toInt = 1 := (by decide); (try rw [← ex_16]); (try rw [← ex_24]); (try rw [← ex_28]); unfold zSetR zHc; (repeat (first | rw [if_pos (by omega)] | rw [if_neg (by omega)])) <;> omega)), (show ((1 : Int32).toInt = 1 → g_34 = vp_updL gce (160 * s_.toInt + i.toInt).toNat (zNar (gso s_.toNatClampNeg).toInt v)) from by (have k9 : (1 : Int32).toInt = 1 := (by decide); intro h; exact (by have hS9 : s_.toNatClampNeg = s_.toInt.toNat := rfl; rw [hg_34]; have h7 : x_27.toNatClampNeg = (160 * s_.toInt + i.toInt).toNat := (by show x_27.toInt.toNat = _; congr 1; omega); rw [h7]; congr 1; rw [← ex_28]; unfold zNar; repeat (first | rw [if_pos (by omega)] | rw [if_neg (by omega)])))), (show ((1 : Int32).toInt ≠ 1 → g_34 = gce) from by (have k9 : (1 : Int32).toInt = 1 := (by decide); intro h; exfalso; omega)), trivial⟩, zRet ht hP hD [0, 1, 2, 3, 4, 5] (by decide) rfl⟩, hS.F ht⟩) hS.2.2 dX8_set_131
                  · have fc_33 : x_28.toInt = 2 := zf_eq c_33 rfl (by decide)
                    refine lv_lload_n hx hb dX8_set_122 rfl (lv_at hl 3 rfl) ?_
                    refine lv_l2i hx hb dX8_set_123 rfl ?_
                    refine lv_topi (fun x_35 ex_35 => ?_)
                    refine lv_i2l hx hb dX8_set_124 rfl ?_
                    refine lv_topl (fun y_36 ey_36 => ?_)
                    refine lv_goto (tgt := 129) hx hb dX8_set_125 (by decide) ?_
                    refine va_last hx hb hK hP hD hS 5 1 rfl rfl (zf_in (by omega) (by omega)) dX8_set_129 (fun H locs hP hD hS => ?_)
                    obtain ⟨g_37, hg_37⟩ : ∃ g : Nat → Int64, g = vp_updL gce x_27.toNatClampNeg y_36 := ⟨_, rfl⟩
                    rw [← hg_37] at hP hD
                    have h9R := zRe (ws' := [(zMO m0 npu nte nat_ nde nto nse nhu nga nsd nfa mrf mki mpa mta mla msl mco mhe mso msi msh mce mca mwo mnu mte nba npl nen nnu nwr mwa mke mma mth mtr nra nik), (mrf, .inl (cI, 8, .inl grf)), (mhe, .inl (cI, 8, .inl ghe)), (mso, .inl (cI, 8, .inl gso)), (msi, .inl (cI, 8, .inl gsi)), (mce, .inl (cJ, 1280, .inr (.inl g_37)))]) hP hD rfl
                    clear hP hD
                    obtain ⟨hP, hD⟩ := h9R
                    refine lv_iconst (v := 1) hx hb dX8_set_130 (by decide) ?_
                    exact W.iret (v := 1) hx hb hr (fun t ht hW => ⟨⟨1, (grf, g_37), rfl, ⟨(show (1 : Int32).toInt = zSetR s_.toInt (zHc (ghe s_.toNatClampNeg).toInt) (gsi s_.toNatClampNeg).toInt i.toInt from by (have k9 : (1 : Int32).toInt = 1 := (by decide); (try rw [← ex_16]); (try rw [← ex_24]); (try rw [← ex_28]); unfold zSetR zHc; (repeat (first | rw [if_pos (by omega)] | rw [if_neg (by omega)])) <;> omega)), (show ((1 : Int32).toInt = 1 → g_37 = vp_updL gce (160 * s_.toInt + i.toInt).toNat (zNar (gso s_.toNatClampNeg).toInt v)) from by (have k9 : (1 : Int32).toInt = 1 := (by decide); intro h; exact (by have hS9 : s_.toNatClampNeg = s_.toInt.toNat := rfl; rw [hg_37]; have h7 : x_27.toNatClampNeg = (160 * s_.toInt + i.toInt).toNat := (by show x_27.toInt.toNat = _; congr 1; omega); rw [h7]; congr 1; rw [ey_36, ex_35]; rw [← ex_28]; unfold zNar; repeat (first | rw [if_pos (by omega)] | rw [if_neg (by omega)])))), (show ((1 : Int32).toInt ≠ 1 → g_37 = gce) from by (have k9 : (1 : Int32).toInt = 1 := (by decide); intro h; exfalso; omega)), trivial⟩, zRet ht hP hD [0, 1, 2, 3, 4, 5] (by decide) rfl⟩, hS.F ht⟩) hS.2.2 dX8_set_131
                · have fc_31 : x_28.toInt = 1 := zf_eq c_31 rfl (by decide)
                  refine lv_lload_n hx hb dX8_set_105 rfl (lv_at hl 3 rfl) ?_
                  refine lv_l2i hx hb dX8_set_106 rfl ?_
                  refine lv_topi (fun x_38 ex_38 => ?_)
                  refine lv_i2s hx hb dX8_set_107 rfl ?_
                  refine lv_topi (fun x_39 ex_39 => ?_)
                  refine lv_i2l hx hb dX8_set_108 rfl ?_
                  refine lv_topl (fun y_40 ey_40 => ?_)
                  refine lv_goto (tgt := 129) hx hb dX8_set_109 (by decide) ?_
                  refine va_last hx hb hK hP hD hS 5 1 rfl rfl (zf_in (by omega) (by omega)) dX8_set_129 (fun H locs hP hD hS => ?_)
                  obtain ⟨g_41, hg_41⟩ : ∃ g : Nat → Int64, g = vp_updL gce x_27.toNatClampNeg y_40 := ⟨_, rfl⟩
                  rw [← hg_41] at hP hD
                  have h9R := zRe (ws' := [(zMO m0 npu nte nat_ nde nto nse nhu nga nsd nfa mrf mki mpa mta mla msl mco mhe mso msi msh mce mca mwo mnu mte nba npl nen nnu nwr mwa mke mma mth mtr nra nik), (mrf, .inl (cI, 8, .inl grf)), (mhe, .inl (cI, 8, .inl ghe)), (mso, .inl (cI, 8, .inl gso)), (msi, .inl (cI, 8, .inl gsi)), (mce, .inl (cJ, 1280, .inr (.inl g_41)))]) hP hD rfl
                  clear hP hD
                  obtain ⟨hP, hD⟩ := h9R
                  refine lv_iconst (v := 1) hx hb dX8_set_130 (by decide) ?_
                  exact W.iret (v := 1) hx hb hr (fun t ht hW => ⟨⟨1, (grf, g_41), rfl, ⟨(show (1 : Int32).toInt = zSetR s_.toInt (zHc (ghe s_.toNatClampNeg).toInt) (gsi s_.toNatClampNeg).toInt i.toInt from by (have k9 : (1 : Int32).toInt = 1 := (by decide); (try rw [← ex_16]); (try rw [← ex_24]); (try rw [← ex_28]); unfold zSetR zHc; (repeat (first | rw [if_pos (by omega)] | rw [if_neg (by omega)])) <;> omega)), (show ((1 : Int32).toInt = 1 → g_41 = vp_updL gce (160 * s_.toInt + i.toInt).toNat (zNar (gso s_.toNatClampNeg).toInt v)) from by (have k9 : (1 : Int32).toInt = 1 := (by decide); intro h; exact (by have hS9 : s_.toNatClampNeg = s_.toInt.toNat := rfl; rw [hg_41]; have h7 : x_27.toNatClampNeg = (160 * s_.toInt + i.toInt).toNat := (by show x_27.toInt.toNat = _; congr 1; omega); rw [h7]; congr 1; rw [ey_40, ex_39, ex_38]; rw [← ex_28]; unfold zNar; repeat (first | rw [if_pos (by omega)] | rw [if_neg (by omega)])))), (show ((1 : Int32).toInt ≠ 1 → g_41 = gce) from by (have k9 : (1 : Int32).toInt = 1 := (by decide); intro h; exfalso; omega)), trivial⟩, zRet ht hP hD [0, 1, 2, 3, 4, 5] (by decide) rfl⟩, hS.F ht⟩) hS.2.2 dX8_set_131
              · have fc_29 : x_28.toInt = 0 := zf_eq c_29 rfl (by decide)
                refine lv_lload_n hx hb dX8_set_88 rfl (lv_at hl 3 rfl) ?_
                refine lv_l2i hx hb dX8_set_89 rfl ?_
                refine lv_topi (fun x_42 ex_42 => ?_)
                refine lv_i2b hx hb dX8_set_90 rfl ?_
                refine lv_topi (fun x_43 ex_43 => ?_)
                refine lv_i2l hx hb dX8_set_91 rfl ?_
                refine lv_topl (fun y_44 ey_44 => ?_)
                refine lv_goto (tgt := 129) hx hb dX8_set_92 (by decide) ?_
                refine va_last hx hb hK hP hD hS 5 1 rfl rfl (zf_in (by omega) (by omega)) dX8_set_129 (fun H locs hP hD hS => ?_)
                obtain ⟨g_45, hg_45⟩ : ∃ g : Nat → Int64, g = vp_updL gce x_27.toNatClampNeg y_44 := ⟨_, rfl⟩
                rw [← hg_45] at hP hD
                have h9R := zRe (ws' := [(zMO m0 npu nte nat_ nde nto nse nhu nga nsd nfa mrf mki mpa mta mla msl mco mhe mso msi msh mce mca mwo mnu mte nba npl nen nnu nwr mwa mke mma mth mtr nra nik), (mrf, .inl (cI, 8, .inl grf)), (mhe, .inl (cI, 8, .inl ghe)), (mso, .inl (cI, 8, .inl gso)), (msi, .inl (cI, 8, .inl gsi)), (mce, .inl (cJ, 1280, .inr (.inl g_45)))]) hP hD rfl
                clear hP hD
                obtain ⟨hP, hD⟩ := h9R
                refine lv_iconst (v := 1) hx hb dX8_set_130 (by decide) ?_
                exact W.iret (v := 1) hx hb hr (fun t ht hW => ⟨⟨1, (grf, g_45), rfl, ⟨(show (1 : Int32).toInt = zSetR s_.toInt (zHc (ghe s_.toNatClampNeg).toInt) (gsi s_.toNatClampNeg).toInt i.toInt from by (have k9 : (1 : Int32).toInt = 1 := (by decide); (try rw [← ex_16]); (try rw [← ex_24]); (try rw [← ex_28]); unfold zSetR zHc; (repeat (first | rw [if_pos (by omega)] | rw [if_neg (by omega)])) <;> omega)), (show ((1 : Int32).toInt = 1 → g_45 = vp_updL gce (160 * s_.toInt + i.toInt).toNat (zNar (gso s_.toNatClampNeg).toInt v)) from by (have k9 : (1 : Int32).toInt = 1 := (by decide); intro h; exact (by have hS9 : s_.toNatClampNeg = s_.toInt.toNat := rfl; rw [hg_45]; have h7 : x_27.toNatClampNeg = (160 * s_.toInt + i.toInt).toNat := (by show x_27.toInt.toNat = _; congr 1; omega); rw [h7]; congr 1; rw [ey_44, ex_43, ex_42]; rw [← ex_28]; unfold zNar; repeat (first | rw [if_pos (by omega)] | rw [if_neg (by omega)])))), (show ((1 : Int32).toInt ≠ 1 → g_45 = gce) from by (have k9 : (1 : Int32).toInt = 1 := (by decide); intro h; exfalso; omega)), trivial⟩, zRet ht hP hD [0, 1, 2, 3, 4, 5] (by decide) rfl⟩, hS.F ht⟩) hS.2.2 dX8_set_131
            · have fc_25 : x_24.toInt ≤ i.toInt := zf_nlt c_25 rfl rfl
              refine lv_aload_n hx hb dX8_set_61 rfl (lv_at hl 0 rfl) ?_
              refine lv_bipush (v := (-5)) hx hb dX8_set_62 (by decide) ?_
              skip
              refine zw_V (As := [.int (-5)]) (rest := []) (wr := [(mhe, .inl (cI, 8, .inl ghe)), (mso, .inl (cI, 8, .inl gso)), (msi, .inl (cI, 8, .inl gsi)), (mce, .inl (cJ, 1280, .inr (.inl gce)))]) ⟨hx, hb, hml, hown, hts⟩ (c_M_no_5 l D cI cJ cZ cP cS po m0 mrf mki mpa mta mla msl mco mhe mso msi msh mce mca mwo mnu mte mwa mke mma mth mtr (npu) (nte) (nat_) (nde) (nto) (nse) (nhu) (nga) (nsd) (nfa) (nba) (npl) (nen) (nnu) (nwr) (nra) (nik) grf hy0 hy1 hy2 hy3 hy4 hy5 hy6 hy7 hy8 hy9 hy10 hy11 hy12 hy13 H.size) (cwV 1 hts gX8_set_X8_no rfl rfl rfl ⟨rfl, dh_X8_no⟩ ⟨Nat.le_of_ble_eq_true rfl, Nat.le_of_ble_eq_true rfl⟩) hK hN (hZ.kept hS) hP hD hS hA [0, 1] [2, 3, 4, 5] rfl rfl (by decide) (by decide) (by decide) (va_recv (q := (RX8, TX8, 38)) hK hP (ci := 8) (q0 := 0) rfl rfl) rfl hl.1 rfl (Nat.le_of_ble_eq_true rfl) dX8_set_64 ⟨Nat.le_of_ble_eq_true rfl, Nat.le_of_ble_eq_true rfl⟩ (fun r_46 u_47 H locs hr_46 hP hD hS => ?_)
              obtain ⟨q_48, rfl⟩ : ∃ z, z = u_47 := ⟨_, rfl⟩
              have h9R := zRe (ws' := [(mhe, .inl (cI, 8, .inl ghe)), (mso, .inl (cI, 8, .inl gso)), (msi, .inl (cI, 8, .inl gsi)), (mce, .inl (cJ, 1280, .inr (.inl gce))), (zMO m0 npu nte nat_ nde nto nse nhu nga nsd nfa mrf mki mpa mta mla msl mco mhe mso msi msh mce mca mwo mnu mte nba npl nen nnu nwr mwa mke mma mth mtr nra nik), (mrf, .inl (cI, 8, .inl q_48))]) hP hD rfl
              clear hP hD
              obtain ⟨hP, hD⟩ := h9R
              obtain rfl := hr_46
              exact W.iret (v := (-5)) hx hb hr (fun t ht hW => ⟨⟨(-5), (q_48, gce), rfl, ⟨(show ((-5) : Int32).toInt = zSetR s_.toInt (zHc (ghe s_.toNatClampNeg).toInt) (gsi s_.toNatClampNeg).toInt i.toInt from by (have k9 : ((-5) : Int32).toInt = -5 := (by decide); (try rw [← ex_16]); (try rw [← ex_24]); unfold zSetR zHc; (repeat (first | rw [if_pos (by omega)] | rw [if_neg (by omega)])) <;> omega)), (show (((-5) : Int32).toInt = 1 → gce = vp_updL gce (160 * s_.toInt + i.toInt).toNat (zNar (gso s_.toNatClampNeg).toInt v)) from by (have k9 : ((-5) : Int32).toInt = -5 := (by decide); intro h; exfalso; omega)), (show (((-5) : Int32).toInt ≠ 1 → gce = gce) from by (have k9 : ((-5) : Int32).toInt = -5 := (by decide); intro h; exact rfl)), trivial⟩, zRet ht hP hD [4, 5, 0, 1, 2, 3] (by decide) rfl⟩, hS.F ht⟩) hS.2.2 dX8_set_67
        · have fc_19 : x_16.toInt = 0 := zf_eq c_19 rfl (by decide)
          refine lv_aload_n hx hb dX8_set_40 rfl (lv_at hl 0 rfl) ?_
          refine lv_bipush (v := (-3)) hx hb dX8_set_41 (by decide) ?_
          skip
          refine zw_V (As := [.int (-3)]) (rest := []) (wr := [(mhe, .inl (cI, 8, .inl ghe)), (mso, .inl (cI, 8, .inl gso)), (msi, .inl (cI, 8, .inl gsi)), (mce, .inl (cJ, 1280, .inr (.inl gce)))]) ⟨hx, hb, hml, hown, hts⟩ (c_M_no_3 l D cI cJ cZ cP cS po m0 mrf mki mpa mta mla msl mco mhe mso msi msh mce mca mwo mnu mte mwa mke mma mth mtr (npu) (nte) (nat_) (nde) (nto) (nse) (nhu) (nga) (nsd) (nfa) (nba) (npl) (nen) (nnu) (nwr) (nra) (nik) grf hy0 hy1 hy2 hy3 hy4 hy5 hy6 hy7 hy8 hy9 hy10 hy11 hy12 hy13 H.size) (cwV 1 hts gX8_set_X8_no rfl rfl rfl ⟨rfl, dh_X8_no⟩ ⟨Nat.le_of_ble_eq_true rfl, Nat.le_of_ble_eq_true rfl⟩) hK hN (hZ.kept hS) hP hD hS hA [0, 1] [2, 3, 4, 5] rfl rfl (by decide) (by decide) (by decide) (va_recv (q := (RX8, TX8, 38)) hK hP (ci := 8) (q0 := 0) rfl rfl) rfl hl.1 rfl (Nat.le_of_ble_eq_true rfl) dX8_set_43 ⟨Nat.le_of_ble_eq_true rfl, Nat.le_of_ble_eq_true rfl⟩ (fun r_49 u_50 H locs hr_49 hP hD hS => ?_)
          obtain ⟨q_51, rfl⟩ : ∃ z, z = u_50 := ⟨_, rfl⟩
          have h9R := zRe (ws' := [(mhe, .inl (cI, 8, .inl ghe)), (mso, .inl (cI, 8, .inl gso)), (msi, .inl (cI, 8, .inl gsi)), (mce, .inl (cJ, 1280, .inr (.inl gce))), (zMO m0 npu nte nat_ nde nto nse nhu nga nsd nfa mrf mki mpa mta mla msl mco mhe mso msi msh mce mca mwo mnu mte nba npl nen nnu nwr mwa mke mma mth mtr nra nik), (mrf, .inl (cI, 8, .inl q_51))]) hP hD rfl
          clear hP hD
          obtain ⟨hP, hD⟩ := h9R
          obtain rfl := hr_49
          exact W.iret (v := (-3)) hx hb hr (fun t ht hW => ⟨⟨(-3), (q_51, gce), rfl, ⟨(show ((-3) : Int32).toInt = zSetR s_.toInt (zHc (ghe s_.toNatClampNeg).toInt) (gsi s_.toNatClampNeg).toInt i.toInt from by (have k9 : ((-3) : Int32).toInt = -3 := (by decide); (try rw [← ex_16]); unfold zSetR zHc; (repeat (first | rw [if_pos (by omega)] | rw [if_neg (by omega)])) <;> omega)), (show (((-3) : Int32).toInt = 1 → gce = vp_updL gce (160 * s_.toInt + i.toInt).toNat (zNar (gso s_.toNatClampNeg).toInt v)) from by (have k9 : ((-3) : Int32).toInt = -3 := (by decide); intro h; exfalso; omega)), (show (((-3) : Int32).toInt ≠ 1 → gce = gce) from by (have k9 : ((-3) : Int32).toInt = -3 := (by decide); intro h; exact rfl)), trivial⟩, zRet ht hP hD [4, 5, 0, 1, 2, 3] (by decide) rfl⟩, hS.F ht⟩) hS.2.2 dX8_set_46
      · have fc_17 : x_16.toInt = 2 := zf_eq c_17 rfl (by decide)
        refine lv_aload_n hx hb dX8_set_24 rfl (lv_at hl 0 rfl) ?_
        refine lv_bipush (v := (-2)) hx hb dX8_set_25 (by decide) ?_
        skip
        refine zw_V (As := [.int (-2)]) (rest := []) (wr := [(mhe, .inl (cI, 8, .inl ghe)), (mso, .inl (cI, 8, .inl gso)), (msi, .inl (cI, 8, .inl gsi)), (mce, .inl (cJ, 1280, .inr (.inl gce)))]) ⟨hx, hb, hml, hown, hts⟩ (c_M_no_2 l D cI cJ cZ cP cS po m0 mrf mki mpa mta mla msl mco mhe mso msi msh mce mca mwo mnu mte mwa mke mma mth mtr (npu) (nte) (nat_) (nde) (nto) (nse) (nhu) (nga) (nsd) (nfa) (nba) (npl) (nen) (nnu) (nwr) (nra) (nik) grf hy0 hy1 hy2 hy3 hy4 hy5 hy6 hy7 hy8 hy9 hy10 hy11 hy12 hy13 H.size) (cwV 1 hts gX8_set_X8_no rfl rfl rfl ⟨rfl, dh_X8_no⟩ ⟨Nat.le_of_ble_eq_true rfl, Nat.le_of_ble_eq_true rfl⟩) hK hN (hZ.kept hS) hP hD hS hA [0, 1] [2, 3, 4, 5] rfl rfl (by decide) (by decide) (by decide) (va_recv (q := (RX8, TX8, 38)) hK hP (ci := 8) (q0 := 0) rfl rfl) rfl hl.1 rfl (Nat.le_of_ble_eq_true rfl) dX8_set_27 ⟨Nat.le_of_ble_eq_true rfl, Nat.le_of_ble_eq_true rfl⟩ (fun r_52 u_53 H locs hr_52 hP hD hS => ?_)
        obtain ⟨q_54, rfl⟩ : ∃ z, z = u_53 := ⟨_, rfl⟩
        have h9R := zRe (ws' := [(mhe, .inl (cI, 8, .inl ghe)), (mso, .inl (cI, 8, .inl gso)), (msi, .inl (cI, 8, .inl gsi)), (mce, .inl (cJ, 1280, .inr (.inl gce))), (zMO m0 npu nte nat_ nde nto nse nhu nga nsd nfa mrf mki mpa mta mla msl mco mhe mso msi msh mce mca mwo mnu mte nba npl nen nnu nwr mwa mke mma mth mtr nra nik), (mrf, .inl (cI, 8, .inl q_54))]) hP hD rfl
        clear hP hD
        obtain ⟨hP, hD⟩ := h9R
        obtain rfl := hr_52
        exact W.iret (v := (-2)) hx hb hr (fun t ht hW => ⟨⟨(-2), (q_54, gce), rfl, ⟨(show ((-2) : Int32).toInt = zSetR s_.toInt (zHc (ghe s_.toNatClampNeg).toInt) (gsi s_.toNatClampNeg).toInt i.toInt from by (have k9 : ((-2) : Int32).toInt = -2 := (by decide); (try rw [← ex_16]); unfold zSetR zHc; (repeat (first | rw [if_pos (by omega)] | rw [if_neg (by omega)])) <;> omega)), (show (((-2) : Int32).toInt = 1 → gce = vp_updL gce (160 * s_.toInt + i.toInt).toNat (zNar (gso s_.toNatClampNeg).toInt v)) from by (have k9 : ((-2) : Int32).toInt = -2 := (by decide); intro h; exfalso; omega)), (show (((-2) : Int32).toInt ≠ 1 → gce = gce) from by (have k9 : ((-2) : Int32).toInt = -2 := (by decide); intro h; exact rfl)), trivial⟩, zRet ht hP hD [4, 5, 0, 1, 2, 3] (by decide) rfl⟩, hS.F ht⟩) hS.2.2 dX8_set_30
    · exact absurd c_15 (by decide)

