theorem hi_X3_readItem_3 : ∀ w ∈ u_ws RX3 TX3 8, w ∈ wsX3_readItem := fun w h => (goodIn_r (u_ws RX3 TX3 8) [105, 106, 107, 108, 109, 110, 111, 112] rfl (by decide +kernel) w h).1
set_option maxHeartbeats 4000000 in
set_option maxRecDepth 100000 in
theorem c_R_readItem (l : Launch) (D : va_G) (cI cJ cZ cP cS : ClassId) (po : zPool) (rd ri rl : Nat) (rz rc rp rf rt ru : Int32) (fl : Nat → Int32) (fi : Nat → Int32) (slot : Int32) (hy0 : 0 ≤ rz.toInt) (hy1 : rz.toInt ≤ 160) (hy2 : 0 ≤ rc.toInt) (hy3 : rc.toInt ≤ 40) (hy4 : 0 ≤ rp.toInt) (hy5 : rp.toInt ≤ 160) (hy6 : rp.toInt ≤ rz.toInt) (hy7 : (-1) ≤ rf.toInt) (hy8 : rf.toInt ≤ 160) (hy9 : 0 ≤ rt.toInt) (hy10 : rt.toInt ≤ 40) (hy11 : 0 ≤ ru.toInt) (hy12 : ru.toInt ≤ 8) (hy13 : 0 ≤ slot.toInt) (hy14 : slot.toInt ≤ 128) (hpz : Nat) : Met l yX3_readItem wsX3_readItem ({ frames := 6, cells := 0, slots := 0, locals := 131 }) (va_Pc [.ref rd, .int slot] (zW D (zKT cI cJ cZ cP cS) po [(rd, .inr (3, [.ref ri, .ref rl, .int rz, .int rc, .int rp, .int rf, .int rt, .int ru])), (rl, .inl (cI, 160, .inl fl)), (ri, .inl (cI, 132, .inl fi))] hpz)) (va_Qv (fun (u : (Int32) × (Int32) × (Int32) × (Int32) × (Nat → Int32)) => (0 ≤ u.1.toInt ∧ u.1.toInt ≤ 160) ∧ ((-1) ≤ u.2.1.toInt ∧ u.2.1.toInt ≤ 160) ∧ (0 ≤ u.2.2.1.toInt ∧ u.2.2.1.toInt ≤ 40) ∧ (0 ≤ u.2.2.2.1.toInt ∧ u.2.2.2.1.toInt ≤ 8) ∧ (u.1.toInt ≤ rz.toInt) ∧ ((u.2.1.toInt = -1 → zIt u.2.2.2.2 slot.toInt.toNat)) ∧ ((∀ j : Nat, j < slot.toInt.toNat → u.2.2.2.2 j = fi j)) ∧ (True)) (zB D [(rd, .inr (3, [.ref ri, .ref rl, .int rz, .int rc, .int rp, .int rf, .int rt, .int ru])), (rl, .inl (cI, 160, .inl fl)), (ri, .inl (cI, 132, .inl fi))] hpz (fun (u : (Int32) × (Int32) × (Int32) × (Int32) × (Nat → Int32)) => [(rd, .inr (3, [.ref ri, .ref rl, .int rz, .int rc, .int u.1, .int u.2.1, .int u.2.2.1, .int u.2.2.2.1])), (rl, .inl (cI, 160, .inl fl)), (ri, .inl (cI, 132, .inl u.2.2.2.2))])) (va_A [(rd, .inr (3, [.ref ri, .ref rl, .int rz, .int rc, .int rp, .int rf, .int rt, .int ru])), (rl, .inl (cI, 160, .inl fl)), (ri, .inl (cI, 132, .inl fi))] hpz)) 0 0 (va_A [(rd, .inr (3, [.ref ri, .ref rl, .int rz, .int rc, .int rp, .int rf, .int rt, .int ru])), (rl, .inl (cI, 160, .inl fl)), (ri, .inl (cI, 132, .inl fi))] hpz) := by
  refine Met.ofW (cc := cX3_readItem) (maxL := 4) (ret := none) (by decide) rfl ?_
  intro p e s m args below meth c s₁ B hml hv
  obtain ⟨rfl, hsz, hP, hK, hD0, hN, hZ⟩ := hv
  have hx := B.exec
  have hb := B.bytes
  have hr := B.returns
  have hts := atoms_spec (ws := wsX3_readItem) B.pre
  have hown : s.vm.findClass RX3 = some m.cls := findClass_of_methodNamed B.named
  have hlocks := B.notSynchronized
  subst hsz
  have hD := hD0.self (sz := s.heap.size)
  have hA : ∀ q : Nat, s.heap.size ≤ q → va_A [(rd, .inr (3, [.ref ri, .ref rl, .int rz, .int rc, .int rp, .int rf, .int rt, .int ru])), (rl, .inl (cI, 160, .inl fl)), (ri, .inl (cI, 132, .inl fi))] s.heap.size q := fun q h => Or.inr h
  have hS : va_S (va_A [(rd, .inr (3, [.ref ri, .ref rl, .int rz, .int rc, .int rp, .int rf, .int rt, .int ru])), (rl, .inl (cI, 160, .inl fl)), (ri, .inl (cI, 132, .inl fi))] s.heap.size) s.heap s.heap [] := va_S.rf
  replace hP : va_P D vwCl _ s.heap := hP
  have hl := lv_entry ([.ref rd, .int slot]) (n := 4) (Nat.le_of_ble_eq_true rfl)
  rw [lg_entry_eq]
  generalize (lg_sl ([.ref rd, .int slot]) ++ List.replicate (4 - (lg_sl ([.ref rd, .int slot])).length) Slot.unset).toArray = ls at hl ⊢
  replace hl : lv_has ls 4 [(0, .ref rd), (1, .int slot)] := hl
  refine zw_start (fun H locs hH hL => ?_)
  replace hP : va_P D vwCl [(rd, .inr (3, [.ref ri, .ref rl, .int rz, .int rc, .int rp, .int rf, .int rt, .int ru])), (rl, .inl (cI, 160, .inl fl)), (ri, .inl (cI, 132, .inl fi))] H := by rw [hH]; exact hP
  replace hS : va_S (va_A [(rd, .inr (3, [.ref ri, .ref rl, .int rz, .int rc, .int rp, .int rf, .int rt, .int ru])), (rl, .inl (cI, 160, .inl fl)), (ri, .inl (cI, 132, .inl fi))] s.heap.size) s.heap H locs := by rw [hH, hL]; exact hS
  clear hH hL
  refine lv_aload_n hx hb dX3_readItem_0 rfl (lv_at hl 0 rfl) ?_
  skip
  refine zw_V (As := []) (rest := []) (wr := [(ri, .inl (cI, 132, .inl fi))]) ⟨hx, hb, hml, hown, hts⟩ (c_R_readWord l D cI cJ cZ cP cS po rd ri rl (rz) (rc) (rp) (rf) (rt) (ru) fl hy0 hy1 hy2 hy3 hy4 hy5 (by omega) hy7 hy8 hy9 hy10 hy11 hy12 H.size) (cwV 0 hts gX3_readItem_X3_readWord rfl rfl rfl (by decide +kernel) ⟨Nat.le_of_ble_eq_true rfl, Nat.le_of_ble_eq_true rfl⟩) hK hN (hZ.kept hS) hP hD hS hA [0, 1] [2] rfl rfl (by decide) (by decide) (by decide) (va_recv hK hP (ci := 3) (q0 := 0) rfl rfl) rfl hl.1 rfl (Nat.le_of_ble_eq_true rfl) dX3_readItem_1 ⟨Nat.le_of_ble_eq_true rfl, Nat.le_of_ble_eq_true rfl⟩ (fun r_1 u_2 H locs hr_1 hP hD hS => ?_)
  obtain ⟨q_3, q_4⟩ := u_2
  try dsimp only at hr_1
  obtain ⟨hbq_3, hbq_4, hsr_1_0, hsr_1_1, hsr_1_2, hsr_1_3, hr_1⟩ := hr_1
  replace hP : va_P D vwCl [(ri, .inl (cI, 132, .inl fi)), (rd, .inr (3, [.ref ri, .ref rl, .int rz, .int rc, .int q_3, .int q_4, .int rt, .int ru])), (rl, .inl (cI, 160, .inl fl))] H := hP
  replace hD : va_D _ [(ri, .inl (cI, 132, .inl fi)), (rd, .inr (3, [.ref ri, .ref rl, .int rz, .int rc, .int q_3, .int q_4, .int rt, .int ru])), (rl, .inl (cI, 160, .inl fl))] := hD
  obtain ⟨g_5, g_6⟩ := hr_1
  refine lv_istore_n (lv' := [(2, .int r_1), (0, .ref rd), (1, .int slot)]) hx hb dX3_readItem_4 rfl hl (by decide) rfl (fun ls hl => ?_)
  refine lv_iload_n hx hb dX3_readItem_5 rfl (lv_at hl 0 rfl) ?_
  refine lv_iconst (v := (-1)) hx hb dX3_readItem_6 (by decide) ?_
  refine lv_icmp_ne (tgt := 11) hx hb dX3_readItem_7 (by decide) (fun c_7 => ?_) (fun c_7 => ?_)
  · have fc_7 : r_1.toInt ≠ (-1) := zf_ne c_7 rfl (by decide)
    have hsp : r_1 = 0 ∨ r_1 = 1 ∨ r_1 = 2 ∨ r_1 = 3 ∨ r_1 = 4 ∨ r_1 = 5 ∨ r_1 = 6 ∨ r_1 = 7 ∨ r_1 = 8 ∨ r_1 = 9 := by
      rcases (show r_1.toInt = 0 ∨ r_1.toInt = 1 ∨ r_1.toInt = 2 ∨ r_1.toInt = 3 ∨ r_1.toInt = 4 ∨ r_1.toInt = 5 ∨ r_1.toInt = 6 ∨ r_1.toInt = 7 ∨ r_1.toInt = 8 ∨ r_1.toInt = 9 by omega) with h9 | h9 | h9 | h9 | h9 | h9 | h9 | h9 | h9 | h9
      · refine Or.inl ?_; exact zf_val h9 (by decide)
      · refine Or.inr (Or.inl ?_); exact zf_val h9 (by decide)
      · refine Or.inr (Or.inr (Or.inl ?_)); exact zf_val h9 (by decide)
      · refine Or.inr (Or.inr (Or.inr (Or.inl ?_))); exact zf_val h9 (by decide)
      · refine Or.inr (Or.inr (Or.inr (Or.inr (Or.inl ?_)))); exact zf_val h9 (by decide)
      · refine Or.inr (Or.inr (Or.inr (Or.inr (Or.inr (Or.inl ?_))))); exact zf_val h9 (by decide)
      · refine Or.inr (Or.inr (Or.inr (Or.inr (Or.inr (Or.inr (Or.inl ?_)))))); exact zf_val h9 (by decide)
      · refine Or.inr (Or.inr (Or.inr (Or.inr (Or.inr (Or.inr (Or.inr (Or.inl ?_))))))); exact zf_val h9 (by decide)
      · refine Or.inr (Or.inr (Or.inr (Or.inr (Or.inr (Or.inr (Or.inr (Or.inr (Or.inl ?_)))))))); exact zf_val h9 (by decide)
      · refine Or.inr (Or.inr (Or.inr (Or.inr (Or.inr (Or.inr (Or.inr (Or.inr (Or.inr (?_))))))))); exact zf_val h9 (by decide)
    rcases hsp with rfl | rfl | rfl | rfl | rfl | rfl | rfl | rfl | rfl | rfl
    · have kc0 : (0 : Int32).toInt = 0 := by decide
      refine lv_aload_n hx hb dX3_readItem_11 rfl (lv_at hl 1 rfl) ?_
      refine va_get (D := D) (ci := 3) (v := .ref ri) (C := RX3) (T := TX3) (N := 8) hx hb hts hi_X3_readItem_3 hown hK hP 1 rfl rfl 0 (by decide) (hts (.fieldLink RX3 11 "TheLiningsInIt$Reader" "items" "[I") (List.mem_of_getElem? (i := 1) rfl)) (fun _ h9 => h9) rfl dX3_readItem_12 ?_
      refine lv_iload_n hx hb dX3_readItem_15 rfl (lv_at hl 2 rfl) ?_
      refine lv_iload_n hx hb dX3_readItem_16 rfl (lv_at hl 0 rfl) ?_
      refine va_iast hx hb hK hP hD hS 0 0 rfl rfl (zf_in (by omega) (by omega)) dX3_readItem_17 (fun H locs hP hD hS => ?_)
      replace hP : va_P D vwCl [(ri, .inl (cI, 132, .inl (upd fi slot.toNatClampNeg 0))), (rd, .inr (3, [.ref ri, .ref rl, .int rz, .int rc, .int q_3, .int q_4, .int rt, .int ru])), (rl, .inl (cI, 160, .inl fl))] H := hP
      replace hD : va_D _ [(ri, .inl (cI, 132, .inl (upd fi slot.toNatClampNeg 0))), (rd, .inr (3, [.ref ri, .ref rl, .int rz, .int rc, .int q_3, .int q_4, .int rt, .int ru])), (rl, .inl (cI, 160, .inl fl))] := hD
      refine lv_iconst (v := 0) hx hb dX3_readItem_18 (by decide) ?_
      refine lv_istore_n (lv' := [(3, .int 0), (2, .int 0), (0, .ref rd), (1, .int slot)]) hx hb dX3_readItem_19 rfl hl (by decide) rfl (fun ls hl => ?_)
      refine lv_iload_n hx hb dX3_readItem_20 rfl (lv_at hl 0 rfl) ?_
      refine lv_iload_n hx hb dX3_readItem_21 rfl (lv_at hl 1 rfl) ?_
      refine zc_S (As := [.int 0]) (rest := [.int 0]) ⟨hx, hb, hml, hown, hts⟩ (c_R_numbersOf_0 l D cI cJ cZ cP cS po  ) (va_cwS 1 hts gX3_readItem_X3_numbersOf rfl rfl rfl (by decide +kernel) ⟨Nat.le_of_ble_eq_true rfl, Nat.le_of_ble_eq_true rfl⟩) hK hN (hZ.kept hS) rfl hl.1 rfl (Nat.le_of_ble_eq_true rfl) dX3_readItem_22 ⟨Nat.le_of_ble_eq_true rfl, Nat.le_of_ble_eq_true rfl⟩ (fun r_8 hr_8 => ?_)
      obtain rfl := hr_8
      refine lv_icmp_ge (tgt := 82) hx hb dX3_readItem_25 (by decide) (fun c_9 => ?_) (fun c_9 => ?_)
      · exact absurd c_9 (by decide)
      · refine lv_aload_n hx hb dX3_readItem_28 rfl (lv_at hl 2 rfl) ?_
        refine lv_bipush (v := 32) hx hb dX3_readItem_29 (by decide) ?_
        skip
        refine zw_Vv (As := [.int 32]) (rest := []) (wr := [(ri, .inl (cI, 132, .inl (upd fi slot.toNatClampNeg 0)))]) ⟨hx, hb, hml, hown, hts⟩ (c_R_expect l D cI cJ cZ cP cS po rd ri rl (rz) (rc) (q_3) (q_4) (rt) (ru) fl (32) hy0 hy1 hy2 hy3 hbq_3.1 hbq_3.2 (by omega) hbq_4.1 hbq_4.2 hy9 hy10 hy11 hy12 H.size) (cwV 1 hts gX3_readItem_X3_expect rfl rfl rfl (by decide +kernel) ⟨Nat.le_of_ble_eq_true rfl, Nat.le_of_ble_eq_true rfl⟩) hK hN (hZ.kept hS) hP hD hS hA [1, 2] [0] rfl rfl (by decide) (by decide) (by decide) (va_recv hK hP (ci := 3) (q0 := 1) rfl rfl) rfl hl.1 rfl (Nat.le_of_ble_eq_true rfl) dX3_readItem_31 ⟨Nat.le_of_ble_eq_true rfl, Nat.le_of_ble_eq_true rfl⟩ (fun u_11 H locs hr_10 hP hD hS => ?_)
        obtain ⟨q_12, q_13⟩ := u_11
        try dsimp only at hr_10
        obtain ⟨hbq_12, hbq_13, hsr_10_0, hsr_10_1, hr_10⟩ := hr_10
        replace hP : va_P D vwCl [(ri, .inl (cI, 132, .inl (upd fi slot.toNatClampNeg 0))), (rd, .inr (3, [.ref ri, .ref rl, .int rz, .int rc, .int q_12, .int q_13, .int rt, .int ru])), (rl, .inl (cI, 160, .inl fl))] H := hP
        replace hD : va_D _ [(ri, .inl (cI, 132, .inl (upd fi slot.toNatClampNeg 0))), (rd, .inr (3, [.ref ri, .ref rl, .int rz, .int rc, .int q_12, .int q_13, .int rt, .int ru])), (rl, .inl (cI, 160, .inl fl))] := hD
        refine lv_aload_n hx hb dX3_readItem_34 rfl (lv_at hl 2 rfl) ?_
        refine va_get (D := D) (ci := 3) (v := .int q_13) (C := RX3) (T := TX3) (N := 8) hx hb hts hi_X3_readItem_3 hown hK hP 1 rfl rfl 5 (by decide) (hts (.fieldLink RX3 28 "TheLiningsInIt$Reader" "fault" "I") (List.mem_of_getElem? (i := 2) rfl)) (fun _ h9 => h9) rfl dX3_readItem_35 ?_
        refine lv_iconst (v := (-1)) hx hb dX3_readItem_38 (by decide) ?_
        refine lv_icmp_ne (tgt := 67) hx hb dX3_readItem_39 (by decide) (fun c_14 => ?_) (fun c_14 => ?_)
        · have fc_14 : q_13.toInt ≠ (-1) := zf_ne c_14 rfl (by decide)
          refine lv_aload_n hx hb dX3_readItem_67 rfl (lv_at hl 2 rfl) ?_
          refine va_get (D := D) (ci := 3) (v := .int q_13) (C := RX3) (T := TX3) (N := 8) hx hb hts hi_X3_readItem_3 hown hK hP 1 rfl rfl 5 (by decide) (hts (.fieldLink RX3 28 "TheLiningsInIt$Reader" "fault" "I") (List.mem_of_getElem? (i := 2) rfl)) (fun _ h9 => h9) rfl dX3_readItem_68 ?_
          refine lv_iconst (v := (-1)) hx hb dX3_readItem_71 (by decide) ?_
          refine lv_icmp_eq (tgt := 76) hx hb dX3_readItem_72 (by decide) (fun c_15 => ?_) (fun c_15 => ?_)
          · exfalso; have fc_15 : q_13.toInt = (-1) := zf_eq c_15 rfl (by decide); omega
          · have fc_15 : q_13.toInt ≠ (-1) := zf_ne c_15 rfl (by decide)
            exact W.vret hx hb hr (fun t ht hW => ⟨⟨(q_12, q_13, rt, ru, (upd fi slot.toNatClampNeg 0)), rfl, ⟨(show 0 ≤ q_12.toInt ∧ q_12.toInt ≤ 160 from hbq_12), (show (-1) ≤ q_13.toInt ∧ q_13.toInt ≤ 160 from hbq_13), (show 0 ≤ rt.toInt ∧ rt.toInt ≤ 40 from ⟨hy9, hy10⟩), (show 0 ≤ ru.toInt ∧ ru.toInt ≤ 8 from ⟨hy11, hy12⟩), (show q_12.toInt ≤ rz.toInt from by omega), (show (q_13.toInt = -1 → zIt (upd fi slot.toNatClampNeg 0) slot.toInt.toNat) from by (intro h; have e0 : slot.toNatClampNeg = slot.toInt.toNat + 0 := (by show (slot : Int32).toInt.toNat = _; omega); have k2 : (0 : Int32).toInt = 0 := (by decide); first | (exfalso; omega) | exact zIt_mk (by simp only [upd]; rw [if_pos (by omega)]) (rfl) (rfl) (rfl) (by unfold zItv; refine ⟨?_, ?_, ?_, ?_, ?_, ?_, ?_, ?_, ?_, ?_, ?_⟩ <;> (intros; omega)))), (show (∀ j : Nat, j < slot.toInt.toNat → (upd fi slot.toNatClampNeg 0) j = fi j) from by (intro j hj; have e0 : slot.toNatClampNeg = slot.toInt.toNat + 0 := (by show (slot : Int32).toInt.toNat = _; omega); simp only [upd]; rw [if_neg (by omega)])), trivial⟩, by rw [ht]; exact hP.sub (ws' := [(rd, .inr (3, [.ref ri, .ref rl, .int rz, .int rc, .int q_12, .int q_13, .int rt, .int ru])), (rl, .inl (cI, 160, .inl fl)), (ri, .inl (cI, 132, .inl (upd fi slot.toNatClampNeg 0)))]) [1, 2, 0] rfl, hD.sub (ws' := [(rd, .inr (3, [.ref ri, .ref rl, .int rz, .int rc, .int q_12, .int q_13, .int rt, .int ru])), (rl, .inl (cI, 160, .inl fl)), (ri, .inl (cI, 132, .inl (upd fi slot.toNatClampNeg 0)))]) [1, 2, 0] (by decide) rfl⟩, hS.F ht⟩) hS.2.2 dX3_readItem_75
        · have fc_14 : q_13.toInt = (-1) := zf_eq c_14 rfl (by decide)
          refine lv_aload_n hx hb dX3_readItem_42 rfl (lv_at hl 2 rfl) ?_
          refine va_get (D := D) (ci := 3) (v := .ref ri) (C := RX3) (T := TX3) (N := 8) hx hb hts hi_X3_readItem_3 hown hK hP 1 rfl rfl 0 (by decide) (hts (.fieldLink RX3 11 "TheLiningsInIt$Reader" "items" "[I") (List.mem_of_getElem? (i := 1) rfl)) (fun _ h9 => h9) rfl dX3_readItem_43 ?_
          refine lv_iload_n hx hb dX3_readItem_46 rfl (lv_at hl 3 rfl) ?_
          refine lv_iconst (v := 1) hx hb dX3_readItem_47 (by decide) ?_
          refine lv_iadd hx hb dX3_readItem_48 ?_
          refine lv_topi (fun x_16 ex_16 => ?_)
          have qx_16 : x_16.toInt = slot.toInt + 1 := by rw [ex_16]; exact zf_add rfl (by decide) (by omega) (by omega)
          refine lv_iload_n hx hb dX3_readItem_49 rfl (lv_at hl 0 rfl) ?_
          refine lv_iadd hx hb dX3_readItem_50 ?_
          refine lv_topi (fun y_17 ey_17 => ?_)
          obtain rfl : x_16 = y_17 := (ey_17.trans (Int32.add_zero x_16)).symm
          refine lv_aload_n hx hb dX3_readItem_51 rfl (lv_at hl 2 rfl) ?_
          refine lv_iload_n hx hb dX3_readItem_52 rfl (lv_at hl 1 rfl) ?_
          refine lv_iload_n hx hb dX3_readItem_53 rfl (lv_at hl 0 rfl) ?_
          refine zc_S (As := [.int 0, .int 0]) (rest := [.ref rd, .int x_16, .ref ri]) ⟨hx, hb, hml, hown, hts⟩ (c_R_leastOf_0_0 l D cI cJ cZ cP cS po  ) (va_cwS 2 hts gX3_readItem_X3_leastOf rfl rfl rfl (by decide +kernel) ⟨Nat.le_of_ble_eq_true rfl, Nat.le_of_ble_eq_true rfl⟩) hK hN (hZ.kept hS) rfl hl.1 rfl (Nat.le_of_ble_eq_true rfl) dX3_readItem_54 ⟨Nat.le_of_ble_eq_true rfl, Nat.le_of_ble_eq_true rfl⟩ (fun r_18 hr_18 => ?_)
          obtain rfl := hr_18
          refine lv_aload_n hx hb dX3_readItem_57 rfl (lv_at hl 2 rfl) ?_
          refine lv_iload_n hx hb dX3_readItem_58 rfl (lv_at hl 1 rfl) ?_
          refine lv_iload_n hx hb dX3_readItem_59 rfl (lv_at hl 0 rfl) ?_
          refine zc_V (As := [.int 0, .int 0]) (rest := [.int 4, .ref rd, .int x_16, .ref ri]) ⟨hx, hb, hml, hown, hts⟩ (c_R_mostOf_0_0 l D cI cJ cZ cP cS po rd ri rl (rz) (rc) (q_12) (q_13) (rt) (ru) hy0 hy1 hy2 hy3 hbq_12.1 hbq_12.2 (by omega) hbq_13.1 hbq_13.2 hy9 hy10 hy11 hy12) (cwV 2 hts gX3_readItem_X3_mostOf rfl rfl rfl (by decide +kernel) ⟨Nat.le_of_ble_eq_true rfl, Nat.le_of_ble_eq_true rfl⟩) hK hN (hZ.kept hS) hP (hP.sub [1] rfl) (va_recv hK hP (ci := 3) (q0 := 1) rfl rfl) rfl hl.1 rfl (Nat.le_of_ble_eq_true rfl) dX3_readItem_60 ⟨Nat.le_of_ble_eq_true rfl, Nat.le_of_ble_eq_true rfl⟩ (fun r_19 hr_19 => ?_)
          obtain rfl := hr_19
          have kc4 : (4 : Int32).toInt = 4 := by decide
          have kc40 : (40 : Int32).toInt = 40 := by decide
          skip
          refine zw_V (As := [.int 4, .int 40]) (rest := [.int x_16, .ref ri]) (wr := [(ri, .inl (cI, 132, .inl (upd fi slot.toNatClampNeg 0)))]) ⟨hx, hb, hml, hown, hts⟩ (c_R_readNumber l D cI cJ cZ cP cS po rd ri rl (rz) (rc) (q_12) (q_13) (rt) (ru) fl (4) (40) hy0 hy1 hy2 hy3 hbq_12.1 hbq_12.2 (by omega) hbq_13.1 hbq_13.2 hy9 hy10 hy11 hy12 H.size) (cwV 2 hts gX3_readItem_X3_readNumber rfl rfl rfl (by decide +kernel) ⟨Nat.le_of_ble_eq_true rfl, Nat.le_of_ble_eq_true rfl⟩) hK hN (hZ.kept hS) hP hD hS hA [1, 2] [0] rfl rfl (by decide) (by decide) (by decide) (va_recv hK hP (ci := 3) (q0 := 1) rfl rfl) rfl hl.1 rfl (Nat.le_of_ble_eq_true rfl) dX3_readItem_63 ⟨Nat.le_of_ble_eq_true rfl, Nat.le_of_ble_eq_true rfl⟩ (fun r_20 u_21 H locs hr_20 hP hD hS => ?_)
          obtain ⟨q_22, q_23⟩ := u_21
          try dsimp only at hr_20
          obtain ⟨hbq_22, hbq_23, hsr_20_0, hsr_20_1, hr_20⟩ := hr_20
          replace hP : va_P D vwCl [(ri, .inl (cI, 132, .inl (upd fi slot.toNatClampNeg 0))), (rd, .inr (3, [.ref ri, .ref rl, .int rz, .int rc, .int q_22, .int q_23, .int rt, .int ru])), (rl, .inl (cI, 160, .inl fl))] H := hP
          replace hD : va_D _ [(ri, .inl (cI, 132, .inl (upd fi slot.toNatClampNeg 0))), (rd, .inr (3, [.ref ri, .ref rl, .int rz, .int rc, .int q_22, .int q_23, .int rt, .int ru])), (rl, .inl (cI, 160, .inl fl))] := hD
          refine va_iast hx hb hK hP hD hS 0 0 rfl rfl (zf_in (by omega) (by omega)) dX3_readItem_66 (fun H locs hP hD hS => ?_)
          replace hP : va_P D vwCl [(ri, .inl (cI, 132, .inl (upd (upd fi slot.toNatClampNeg 0) x_16.toNatClampNeg r_20))), (rd, .inr (3, [.ref ri, .ref rl, .int rz, .int rc, .int q_22, .int q_23, .int rt, .int ru])), (rl, .inl (cI, 160, .inl fl))] H := hP
          replace hD : va_D _ [(ri, .inl (cI, 132, .inl (upd (upd fi slot.toNatClampNeg 0) x_16.toNatClampNeg r_20))), (rd, .inr (3, [.ref ri, .ref rl, .int rz, .int rc, .int q_22, .int q_23, .int rt, .int ru])), (rl, .inl (cI, 160, .inl fl))] := hD
          refine lv_aload_n hx hb dX3_readItem_67 rfl (lv_at hl 2 rfl) ?_
          refine va_get (D := D) (ci := 3) (v := .int q_23) (C := RX3) (T := TX3) (N := 8) hx hb hts hi_X3_readItem_3 hown hK hP 1 rfl rfl 5 (by decide) (hts (.fieldLink RX3 28 "TheLiningsInIt$Reader" "fault" "I") (List.mem_of_getElem? (i := 2) rfl)) (fun _ h9 => h9) rfl dX3_readItem_68 ?_
          refine lv_iconst (v := (-1)) hx hb dX3_readItem_71 (by decide) ?_
          refine lv_icmp_eq (tgt := 76) hx hb dX3_readItem_72 (by decide) (fun c_24 => ?_) (fun c_24 => ?_)
          · have fc_24 : q_23.toInt = (-1) := zf_eq c_24 rfl (by decide)
            refine lv_iinc (v := 1) (lv' := [(3, .int 1), (2, .int 0), (0, .ref rd), (1, .int slot)]) hx hb dX3_readItem_76 hl (k := 0) rfl (by decide) (by decide) rfl (fun ls hl => ?_)
            refine lv_goto (tgt := 20) hx hb dX3_readItem_79 (by decide) ?_
            refine lv_iload_n hx hb dX3_readItem_20 rfl (lv_at hl 0 rfl) ?_
            refine lv_iload_n hx hb dX3_readItem_21 rfl (lv_at hl 1 rfl) ?_
            refine zc_S (As := [.int 0]) (rest := [.int 1]) ⟨hx, hb, hml, hown, hts⟩ (c_R_numbersOf_0 l D cI cJ cZ cP cS po  ) (va_cwS 1 hts gX3_readItem_X3_numbersOf rfl rfl rfl (by decide +kernel) ⟨Nat.le_of_ble_eq_true rfl, Nat.le_of_ble_eq_true rfl⟩) hK hN (hZ.kept hS) rfl hl.1 rfl (Nat.le_of_ble_eq_true rfl) dX3_readItem_22 ⟨Nat.le_of_ble_eq_true rfl, Nat.le_of_ble_eq_true rfl⟩ (fun r_25 hr_25 => ?_)
            obtain rfl := hr_25
            refine lv_icmp_ge (tgt := 82) hx hb dX3_readItem_25 (by decide) (fun c_26 => ?_) (fun c_26 => ?_)
            · refine lv_iload_n hx hb dX3_readItem_82 rfl (lv_at hl 1 rfl) ?_
              refine lv_if_ne (tgt := 101) hx hb dX3_readItem_83 (by decide) (fun c_27 => ?_) (fun c_27 => ?_)
              · exact absurd c_27 (by decide)
              · refine lv_aload_n hx hb dX3_readItem_86 rfl (lv_at hl 2 rfl) ?_
                refine lv_aload_n hx hb dX3_readItem_87 rfl (lv_at hl 2 rfl) ?_
                refine va_get (D := D) (ci := 3) (v := .ref ri) (C := RX3) (T := TX3) (N := 8) hx hb hts hi_X3_readItem_3 hown hK hP 1 rfl rfl 0 (by decide) (hts (.fieldLink RX3 11 "TheLiningsInIt$Reader" "items" "[I") (List.mem_of_getElem? (i := 1) rfl)) (fun _ h9 => h9) rfl dX3_readItem_88 ?_
                refine lv_iload_n hx hb dX3_readItem_91 rfl (lv_at hl 3 rfl) ?_
                refine lv_iconst (v := 1) hx hb dX3_readItem_92 (by decide) ?_
                refine lv_iadd hx hb dX3_readItem_93 ?_
                refine lv_topi (fun y_28 ey_28 => ?_)
                obtain rfl : x_16 = y_28 := ex_16.trans ey_28.symm
                refine va_iald hx hb hK hP 0 0 rfl rfl (zf_in (by omega) (by omega)) dX3_readItem_94 ?_
                refine lv_topi (fun x_29 ex_29 => ?_)
                obtain rfl : r_20 = x_29 := (ex_29.trans (by simp [upd])).symm
                refine va_put (D := D) (ci := 3) (v := .int r_20) (ty := .int) (C := RX3) (T := TX3) (N := 8) hx hb hts hi_X3_readItem_3 tyX3 tyX3_ok nmX3 hown hK hP hD hS 1 rfl rfl 6 (by decide) (hts (.fieldLink RX3 31 "TheLiningsInIt$Reader" "teeth" "I") (List.mem_of_getElem? (i := 3) rfl)) (fun _ h9 => h9) rfl (by decide +kernel) rfl rfl (Nat.le_of_ble_eq_true rfl) dX3_readItem_95 (fun H locs hP hD hS => ?_)
                replace hP : va_P D vwCl [(ri, .inl (cI, 132, .inl (upd (upd fi slot.toNatClampNeg 0) x_16.toNatClampNeg r_20))), (rd, .inr (3, [.ref ri, .ref rl, .int rz, .int rc, .int q_22, .int q_23, .int r_20, .int ru])), (rl, .inl (cI, 160, .inl fl))] H := hP
                replace hD : va_D _ [(ri, .inl (cI, 132, .inl (upd (upd fi slot.toNatClampNeg 0) x_16.toNatClampNeg r_20))), (rd, .inr (3, [.ref ri, .ref rl, .int rz, .int rc, .int q_22, .int q_23, .int r_20, .int ru])), (rl, .inl (cI, 160, .inl fl))] := hD
                refine lv_goto (tgt := 116) hx hb dX3_readItem_98 (by decide) ?_
                exact W.vret hx hb hr (fun t ht hW => ⟨⟨(q_22, q_23, r_20, ru, (upd (upd fi slot.toNatClampNeg 0) x_16.toNatClampNeg r_20)), rfl, ⟨(show 0 ≤ q_22.toInt ∧ q_22.toInt ≤ 160 from hbq_22), (show (-1) ≤ q_23.toInt ∧ q_23.toInt ≤ 160 from hbq_23), (show 0 ≤ r_20.toInt ∧ r_20.toInt ≤ 40 from ⟨by omega, by omega⟩), (show 0 ≤ ru.toInt ∧ ru.toInt ≤ 8 from ⟨hy11, hy12⟩), (show q_22.toInt ≤ rz.toInt from by omega), (show (q_23.toInt = -1 → zIt (upd (upd fi slot.toNatClampNeg 0) x_16.toNatClampNeg r_20) slot.toInt.toNat) from by (intro h; have e0 : slot.toNatClampNeg = slot.toInt.toNat + 0 := (by show (slot : Int32).toInt.toNat = _; omega); have e1 : x_16.toNatClampNeg = slot.toInt.toNat + 1 := (by show (x_16 : Int32).toInt.toNat = _; omega); have k3 : (0 : Int32).toInt = 0 := (by decide); first | (exfalso; omega) | exact zIt_mk (by simp only [upd]; rw [if_neg (by omega), if_pos (by omega)]) (by simp only [upd]; rw [if_pos (by omega)]) (rfl) (rfl) (by unfold zItv; refine ⟨?_, ?_, ?_, ?_, ?_, ?_, ?_, ?_, ?_, ?_, ?_⟩ <;> (intros; omega)))), (show (∀ j : Nat, j < slot.toInt.toNat → (upd (upd fi slot.toNatClampNeg 0) x_16.toNatClampNeg r_20) j = fi j) from by (intro j hj; have e0 : slot.toNatClampNeg = slot.toInt.toNat + 0 := (by show (slot : Int32).toInt.toNat = _; omega); have e1 : x_16.toNatClampNeg = slot.toInt.toNat + 1 := (by show (x_16 : Int32).toInt.toNat = _; omega); simp only [upd]; rw [if_neg (by omega), if_neg (by omega)])), trivial⟩, by rw [ht]; exact hP.sub (ws' := [(rd, .inr (3, [.ref ri, .ref rl, .int rz, .int rc, .int q_22, .int q_23, .int r_20, .int ru])), (rl, .inl (cI, 160, .inl fl)), (ri, .inl (cI, 132, .inl (upd (upd fi slot.toNatClampNeg 0) x_16.toNatClampNeg r_20)))]) [1, 2, 0] rfl, hD.sub (ws' := [(rd, .inr (3, [.ref ri, .ref rl, .int rz, .int rc, .int q_22, .int q_23, .int r_20, .int ru])), (rl, .inl (cI, 160, .inl fl)), (ri, .inl (cI, 132, .inl (upd (upd fi slot.toNatClampNeg 0) x_16.toNatClampNeg r_20)))]) [1, 2, 0] (by decide) rfl⟩, hS.F ht⟩) hS.2.2 dX3_readItem_116
            · exact absurd c_26 (by decide)
          · have fc_24 : q_23.toInt ≠ (-1) := zf_ne c_24 rfl (by decide)
            exact W.vret hx hb hr (fun t ht hW => ⟨⟨(q_22, q_23, rt, ru, (upd (upd fi slot.toNatClampNeg 0) x_16.toNatClampNeg r_20)), rfl, ⟨(show 0 ≤ q_22.toInt ∧ q_22.toInt ≤ 160 from hbq_22), (show (-1) ≤ q_23.toInt ∧ q_23.toInt ≤ 160 from hbq_23), (show 0 ≤ rt.toInt ∧ rt.toInt ≤ 40 from ⟨hy9, hy10⟩), (show 0 ≤ ru.toInt ∧ ru.toInt ≤ 8 from ⟨hy11, hy12⟩), (show q_22.toInt ≤ rz.toInt from by omega), (show (q_23.toInt = -1 → zIt (upd (upd fi slot.toNatClampNeg 0) x_16.toNatClampNeg r_20) slot.toInt.toNat) from by (intro h; have e0 : slot.toNatClampNeg = slot.toInt.toNat + 0 := (by show (slot : Int32).toInt.toNat = _; omega); have e1 : x_16.toNatClampNeg = slot.toInt.toNat + 1 := (by show (x_16 : Int32).toInt.toNat = _; omega); have k3 : (0 : Int32).toInt = 0 := (by decide); first | (exfalso; omega) | exact zIt_mk (by simp only [upd]; rw [if_neg (by omega), if_pos (by omega)]) (by simp only [upd]; rw [if_pos (by omega)]) (rfl) (rfl) (by unfold zItv; refine ⟨?_, ?_, ?_, ?_, ?_, ?_, ?_, ?_, ?_, ?_, ?_⟩ <;> (intros; omega)))), (show (∀ j : Nat, j < slot.toInt.toNat → (upd (upd fi slot.toNatClampNeg 0) x_16.toNatClampNeg r_20) j = fi j) from by (intro j hj; have e0 : slot.toNatClampNeg = slot.toInt.toNat + 0 := (by show (slot : Int32).toInt.toNat = _; omega); have e1 : x_16.toNatClampNeg = slot.toInt.toNat + 1 := (by show (x_16 : Int32).toInt.toNat = _; omega); simp only [upd]; rw [if_neg (by omega), if_neg (by omega)])), trivial⟩, by rw [ht]; exact hP.sub (ws' := [(rd, .inr (3, [.ref ri, .ref rl, .int rz, .int rc, .int q_22, .int q_23, .int rt, .int ru])), (rl, .inl (cI, 160, .inl fl)), (ri, .inl (cI, 132, .inl (upd (upd fi slot.toNatClampNeg 0) x_16.toNatClampNeg r_20)))]) [1, 2, 0] rfl, hD.sub (ws' := [(rd, .inr (3, [.ref ri, .ref rl, .int rz, .int rc, .int q_22, .int q_23, .int rt, .int ru])), (rl, .inl (cI, 160, .inl fl)), (ri, .inl (cI, 132, .inl (upd (upd fi slot.toNatClampNeg 0) x_16.toNatClampNeg r_20)))]) [1, 2, 0] (by decide) rfl⟩, hS.F ht⟩) hS.2.2 dX3_readItem_75
    · have kc1 : (1 : Int32).toInt = 1 := by decide
      refine lv_aload_n hx hb dX3_readItem_11 rfl (lv_at hl 1 rfl) ?_
      refine va_get (D := D) (ci := 3) (v := .ref ri) (C := RX3) (T := TX3) (N := 8) hx hb hts hi_X3_readItem_3 hown hK hP 1 rfl rfl 0 (by decide) (hts (.fieldLink RX3 11 "TheLiningsInIt$Reader" "items" "[I") (List.mem_of_getElem? (i := 1) rfl)) (fun _ h9 => h9) rfl dX3_readItem_12 ?_
      refine lv_iload_n hx hb dX3_readItem_15 rfl (lv_at hl 2 rfl) ?_
      refine lv_iload_n hx hb dX3_readItem_16 rfl (lv_at hl 0 rfl) ?_
      refine va_iast hx hb hK hP hD hS 0 0 rfl rfl (zf_in (by omega) (by omega)) dX3_readItem_17 (fun H locs hP hD hS => ?_)
      replace hP : va_P D vwCl [(ri, .inl (cI, 132, .inl (upd fi slot.toNatClampNeg 1))), (rd, .inr (3, [.ref ri, .ref rl, .int rz, .int rc, .int q_3, .int q_4, .int rt, .int ru])), (rl, .inl (cI, 160, .inl fl))] H := hP
      replace hD : va_D _ [(ri, .inl (cI, 132, .inl (upd fi slot.toNatClampNeg 1))), (rd, .inr (3, [.ref ri, .ref rl, .int rz, .int rc, .int q_3, .int q_4, .int rt, .int ru])), (rl, .inl (cI, 160, .inl fl))] := hD
      refine lv_iconst (v := 0) hx hb dX3_readItem_18 (by decide) ?_
      refine lv_istore_n (lv' := [(3, .int 0), (2, .int 1), (0, .ref rd), (1, .int slot)]) hx hb dX3_readItem_19 rfl hl (by decide) rfl (fun ls hl => ?_)
      refine lv_iload_n hx hb dX3_readItem_20 rfl (lv_at hl 0 rfl) ?_
      refine lv_iload_n hx hb dX3_readItem_21 rfl (lv_at hl 1 rfl) ?_
      refine zc_S (As := [.int 1]) (rest := [.int 0]) ⟨hx, hb, hml, hown, hts⟩ (c_R_numbersOf_1 l D cI cJ cZ cP cS po  ) (va_cwS 1 hts gX3_readItem_X3_numbersOf rfl rfl rfl (by decide +kernel) ⟨Nat.le_of_ble_eq_true rfl, Nat.le_of_ble_eq_true rfl⟩) hK hN (hZ.kept hS) rfl hl.1 rfl (Nat.le_of_ble_eq_true rfl) dX3_readItem_22 ⟨Nat.le_of_ble_eq_true rfl, Nat.le_of_ble_eq_true rfl⟩ (fun r_30 hr_30 => ?_)
      obtain rfl := hr_30
      refine lv_icmp_ge (tgt := 82) hx hb dX3_readItem_25 (by decide) (fun c_31 => ?_) (fun c_31 => ?_)
      · exact absurd c_31 (by decide)
      · refine lv_aload_n hx hb dX3_readItem_28 rfl (lv_at hl 2 rfl) ?_
        refine lv_bipush (v := 32) hx hb dX3_readItem_29 (by decide) ?_
        skip
        refine zw_Vv (As := [.int 32]) (rest := []) (wr := [(ri, .inl (cI, 132, .inl (upd fi slot.toNatClampNeg 1)))]) ⟨hx, hb, hml, hown, hts⟩ (c_R_expect l D cI cJ cZ cP cS po rd ri rl (rz) (rc) (q_3) (q_4) (rt) (ru) fl (32) hy0 hy1 hy2 hy3 hbq_3.1 hbq_3.2 (by omega) hbq_4.1 hbq_4.2 hy9 hy10 hy11 hy12 H.size) (cwV 1 hts gX3_readItem_X3_expect rfl rfl rfl (by decide +kernel) ⟨Nat.le_of_ble_eq_true rfl, Nat.le_of_ble_eq_true rfl⟩) hK hN (hZ.kept hS) hP hD hS hA [1, 2] [0] rfl rfl (by decide) (by decide) (by decide) (va_recv hK hP (ci := 3) (q0 := 1) rfl rfl) rfl hl.1 rfl (Nat.le_of_ble_eq_true rfl) dX3_readItem_31 ⟨Nat.le_of_ble_eq_true rfl, Nat.le_of_ble_eq_true rfl⟩ (fun u_33 H locs hr_32 hP hD hS => ?_)
        obtain ⟨q_34, q_35⟩ := u_33
        try dsimp only at hr_32
        obtain ⟨hbq_34, hbq_35, hsr_32_0, hsr_32_1, hr_32⟩ := hr_32
        replace hP : va_P D vwCl [(ri, .inl (cI, 132, .inl (upd fi slot.toNatClampNeg 1))), (rd, .inr (3, [.ref ri, .ref rl, .int rz, .int rc, .int q_34, .int q_35, .int rt, .int ru])), (rl, .inl (cI, 160, .inl fl))] H := hP
        replace hD : va_D _ [(ri, .inl (cI, 132, .inl (upd fi slot.toNatClampNeg 1))), (rd, .inr (3, [.ref ri, .ref rl, .int rz, .int rc, .int q_34, .int q_35, .int rt, .int ru])), (rl, .inl (cI, 160, .inl fl))] := hD
        refine lv_aload_n hx hb dX3_readItem_34 rfl (lv_at hl 2 rfl) ?_
        refine va_get (D := D) (ci := 3) (v := .int q_35) (C := RX3) (T := TX3) (N := 8) hx hb hts hi_X3_readItem_3 hown hK hP 1 rfl rfl 5 (by decide) (hts (.fieldLink RX3 28 "TheLiningsInIt$Reader" "fault" "I") (List.mem_of_getElem? (i := 2) rfl)) (fun _ h9 => h9) rfl dX3_readItem_35 ?_
        refine lv_iconst (v := (-1)) hx hb dX3_readItem_38 (by decide) ?_
        refine lv_icmp_ne (tgt := 67) hx hb dX3_readItem_39 (by decide) (fun c_36 => ?_) (fun c_36 => ?_)
        · have fc_36 : q_35.toInt ≠ (-1) := zf_ne c_36 rfl (by decide)
          refine lv_aload_n hx hb dX3_readItem_67 rfl (lv_at hl 2 rfl) ?_
          refine va_get (D := D) (ci := 3) (v := .int q_35) (C := RX3) (T := TX3) (N := 8) hx hb hts hi_X3_readItem_3 hown hK hP 1 rfl rfl 5 (by decide) (hts (.fieldLink RX3 28 "TheLiningsInIt$Reader" "fault" "I") (List.mem_of_getElem? (i := 2) rfl)) (fun _ h9 => h9) rfl dX3_readItem_68 ?_
          refine lv_iconst (v := (-1)) hx hb dX3_readItem_71 (by decide) ?_
          refine lv_icmp_eq (tgt := 76) hx hb dX3_readItem_72 (by decide) (fun c_37 => ?_) (fun c_37 => ?_)
          · exfalso; have fc_37 : q_35.toInt = (-1) := zf_eq c_37 rfl (by decide); omega
          · have fc_37 : q_35.toInt ≠ (-1) := zf_ne c_37 rfl (by decide)
            exact W.vret hx hb hr (fun t ht hW => ⟨⟨(q_34, q_35, rt, ru, (upd fi slot.toNatClampNeg 1)), rfl, ⟨(show 0 ≤ q_34.toInt ∧ q_34.toInt ≤ 160 from hbq_34), (show (-1) ≤ q_35.toInt ∧ q_35.toInt ≤ 160 from hbq_35), (show 0 ≤ rt.toInt ∧ rt.toInt ≤ 40 from ⟨hy9, hy10⟩), (show 0 ≤ ru.toInt ∧ ru.toInt ≤ 8 from ⟨hy11, hy12⟩), (show q_34.toInt ≤ rz.toInt from by omega), (show (q_35.toInt = -1 → zIt (upd fi slot.toNatClampNeg 1) slot.toInt.toNat) from by (intro h; have e0 : slot.toNatClampNeg = slot.toInt.toNat + 0 := (by show (slot : Int32).toInt.toNat = _; omega); have k2 : (1 : Int32).toInt = 1 := (by decide); first | (exfalso; omega) | exact zIt_mk (by simp only [upd]; rw [if_pos (by omega)]) (rfl) (rfl) (rfl) (by unfold zItv; refine ⟨?_, ?_, ?_, ?_, ?_, ?_, ?_, ?_, ?_, ?_, ?_⟩ <;> (intros; omega)))), (show (∀ j : Nat, j < slot.toInt.toNat → (upd fi slot.toNatClampNeg 1) j = fi j) from by (intro j hj; have e0 : slot.toNatClampNeg = slot.toInt.toNat + 0 := (by show (slot : Int32).toInt.toNat = _; omega); simp only [upd]; rw [if_neg (by omega)])), trivial⟩, by rw [ht]; exact hP.sub (ws' := [(rd, .inr (3, [.ref ri, .ref rl, .int rz, .int rc, .int q_34, .int q_35, .int rt, .int ru])), (rl, .inl (cI, 160, .inl fl)), (ri, .inl (cI, 132, .inl (upd fi slot.toNatClampNeg 1)))]) [1, 2, 0] rfl, hD.sub (ws' := [(rd, .inr (3, [.ref ri, .ref rl, .int rz, .int rc, .int q_34, .int q_35, .int rt, .int ru])), (rl, .inl (cI, 160, .inl fl)), (ri, .inl (cI, 132, .inl (upd fi slot.toNatClampNeg 1)))]) [1, 2, 0] (by decide) rfl⟩, hS.F ht⟩) hS.2.2 dX3_readItem_75
        · have fc_36 : q_35.toInt = (-1) := zf_eq c_36 rfl (by decide)
          refine lv_aload_n hx hb dX3_readItem_42 rfl (lv_at hl 2 rfl) ?_
          refine va_get (D := D) (ci := 3) (v := .ref ri) (C := RX3) (T := TX3) (N := 8) hx hb hts hi_X3_readItem_3 hown hK hP 1 rfl rfl 0 (by decide) (hts (.fieldLink RX3 11 "TheLiningsInIt$Reader" "items" "[I") (List.mem_of_getElem? (i := 1) rfl)) (fun _ h9 => h9) rfl dX3_readItem_43 ?_
          refine lv_iload_n hx hb dX3_readItem_46 rfl (lv_at hl 3 rfl) ?_
          refine lv_iconst (v := 1) hx hb dX3_readItem_47 (by decide) ?_
          refine lv_iadd hx hb dX3_readItem_48 ?_
          refine lv_topi (fun x_38 ex_38 => ?_)
          have qx_38 : x_38.toInt = slot.toInt + 1 := by rw [ex_38]; exact zf_add rfl (by decide) (by omega) (by omega)
          refine lv_iload_n hx hb dX3_readItem_49 rfl (lv_at hl 0 rfl) ?_
          refine lv_iadd hx hb dX3_readItem_50 ?_
          refine lv_topi (fun y_39 ey_39 => ?_)
          obtain rfl : x_38 = y_39 := (ey_39.trans (Int32.add_zero x_38)).symm
          refine lv_aload_n hx hb dX3_readItem_51 rfl (lv_at hl 2 rfl) ?_
          refine lv_iload_n hx hb dX3_readItem_52 rfl (lv_at hl 1 rfl) ?_
          refine lv_iload_n hx hb dX3_readItem_53 rfl (lv_at hl 0 rfl) ?_
          refine zc_S (As := [.int 1, .int 0]) (rest := [.ref rd, .int x_38, .ref ri]) ⟨hx, hb, hml, hown, hts⟩ (c_R_leastOf_1_0 l D cI cJ cZ cP cS po  ) (va_cwS 2 hts gX3_readItem_X3_leastOf rfl rfl rfl (by decide +kernel) ⟨Nat.le_of_ble_eq_true rfl, Nat.le_of_ble_eq_true rfl⟩) hK hN (hZ.kept hS) rfl hl.1 rfl (Nat.le_of_ble_eq_true rfl) dX3_readItem_54 ⟨Nat.le_of_ble_eq_true rfl, Nat.le_of_ble_eq_true rfl⟩ (fun r_40 hr_40 => ?_)
          obtain rfl := hr_40
          refine lv_aload_n hx hb dX3_readItem_57 rfl (lv_at hl 2 rfl) ?_
          refine lv_iload_n hx hb dX3_readItem_58 rfl (lv_at hl 1 rfl) ?_
          refine lv_iload_n hx hb dX3_readItem_59 rfl (lv_at hl 0 rfl) ?_
          refine zc_V (As := [.int 1, .int 0]) (rest := [.int 0, .ref rd, .int x_38, .ref ri]) ⟨hx, hb, hml, hown, hts⟩ (c_R_mostOf_1_0 l D cI cJ cZ cP cS po rd ri rl (rz) (rc) (q_34) (q_35) (rt) (ru) hy0 hy1 hy2 hy3 hbq_34.1 hbq_34.2 (by omega) hbq_35.1 hbq_35.2 hy9 hy10 hy11 hy12) (cwV 2 hts gX3_readItem_X3_mostOf rfl rfl rfl (by decide +kernel) ⟨Nat.le_of_ble_eq_true rfl, Nat.le_of_ble_eq_true rfl⟩) hK hN (hZ.kept hS) hP (hP.sub [1] rfl) (va_recv hK hP (ci := 3) (q0 := 1) rfl rfl) rfl hl.1 rfl (Nat.le_of_ble_eq_true rfl) dX3_readItem_60 ⟨Nat.le_of_ble_eq_true rfl, Nat.le_of_ble_eq_true rfl⟩ (fun r_41 hr_41 => ?_)
          obtain ⟨g_42, g_43, hsr_41_0⟩ := hr_41
          have kc0 : (0 : Int32).toInt = 0 := by decide
          skip
          refine zw_V (As := [.int 0, .int r_41]) (rest := [.int x_38, .ref ri]) (wr := [(ri, .inl (cI, 132, .inl (upd fi slot.toNatClampNeg 1)))]) ⟨hx, hb, hml, hown, hts⟩ (c_R_readNumber l D cI cJ cZ cP cS po rd ri rl (rz) (rc) (q_34) (q_35) (rt) (ru) fl (0) (r_41) hy0 hy1 hy2 hy3 hbq_34.1 hbq_34.2 (by omega) hbq_35.1 hbq_35.2 hy9 hy10 hy11 hy12 H.size) (cwV 2 hts gX3_readItem_X3_readNumber rfl rfl rfl (by decide +kernel) ⟨Nat.le_of_ble_eq_true rfl, Nat.le_of_ble_eq_true rfl⟩) hK hN (hZ.kept hS) hP hD hS hA [1, 2] [0] rfl rfl (by decide) (by decide) (by decide) (va_recv hK hP (ci := 3) (q0 := 1) rfl rfl) rfl hl.1 rfl (Nat.le_of_ble_eq_true rfl) dX3_readItem_63 ⟨Nat.le_of_ble_eq_true rfl, Nat.le_of_ble_eq_true rfl⟩ (fun r_44 u_45 H locs hr_44 hP hD hS => ?_)
          obtain ⟨q_46, q_47⟩ := u_45
          try dsimp only at hr_44
          obtain ⟨hbq_46, hbq_47, hsr_44_0, hsr_44_1, hr_44⟩ := hr_44
          replace hP : va_P D vwCl [(ri, .inl (cI, 132, .inl (upd fi slot.toNatClampNeg 1))), (rd, .inr (3, [.ref ri, .ref rl, .int rz, .int rc, .int q_46, .int q_47, .int rt, .int ru])), (rl, .inl (cI, 160, .inl fl))] H := hP
          replace hD : va_D _ [(ri, .inl (cI, 132, .inl (upd fi slot.toNatClampNeg 1))), (rd, .inr (3, [.ref ri, .ref rl, .int rz, .int rc, .int q_46, .int q_47, .int rt, .int ru])), (rl, .inl (cI, 160, .inl fl))] := hD
          refine va_iast hx hb hK hP hD hS 0 0 rfl rfl (zf_in (by omega) (by omega)) dX3_readItem_66 (fun H locs hP hD hS => ?_)
          replace hP : va_P D vwCl [(ri, .inl (cI, 132, .inl (upd (upd fi slot.toNatClampNeg 1) x_38.toNatClampNeg r_44))), (rd, .inr (3, [.ref ri, .ref rl, .int rz, .int rc, .int q_46, .int q_47, .int rt, .int ru])), (rl, .inl (cI, 160, .inl fl))] H := hP
          replace hD : va_D _ [(ri, .inl (cI, 132, .inl (upd (upd fi slot.toNatClampNeg 1) x_38.toNatClampNeg r_44))), (rd, .inr (3, [.ref ri, .ref rl, .int rz, .int rc, .int q_46, .int q_47, .int rt, .int ru])), (rl, .inl (cI, 160, .inl fl))] := hD
          refine lv_aload_n hx hb dX3_readItem_67 rfl (lv_at hl 2 rfl) ?_
          refine va_get (D := D) (ci := 3) (v := .int q_47) (C := RX3) (T := TX3) (N := 8) hx hb hts hi_X3_readItem_3 hown hK hP 1 rfl rfl 5 (by decide) (hts (.fieldLink RX3 28 "TheLiningsInIt$Reader" "fault" "I") (List.mem_of_getElem? (i := 2) rfl)) (fun _ h9 => h9) rfl dX3_readItem_68 ?_
          refine lv_iconst (v := (-1)) hx hb dX3_readItem_71 (by decide) ?_
          refine lv_icmp_eq (tgt := 76) hx hb dX3_readItem_72 (by decide) (fun c_48 => ?_) (fun c_48 => ?_)
          · have fc_48 : q_47.toInt = (-1) := zf_eq c_48 rfl (by decide)
            refine lv_iinc (v := 1) (lv' := [(3, .int 1), (2, .int 1), (0, .ref rd), (1, .int slot)]) hx hb dX3_readItem_76 hl (k := 0) rfl (by decide) (by decide) rfl (fun ls hl => ?_)
            refine lv_goto (tgt := 20) hx hb dX3_readItem_79 (by decide) ?_
            refine lv_iload_n hx hb dX3_readItem_20 rfl (lv_at hl 0 rfl) ?_
            refine lv_iload_n hx hb dX3_readItem_21 rfl (lv_at hl 1 rfl) ?_
            refine zc_S (As := [.int 1]) (rest := [.int 1]) ⟨hx, hb, hml, hown, hts⟩ (c_R_numbersOf_1 l D cI cJ cZ cP cS po  ) (va_cwS 1 hts gX3_readItem_X3_numbersOf rfl rfl rfl (by decide +kernel) ⟨Nat.le_of_ble_eq_true rfl, Nat.le_of_ble_eq_true rfl⟩) hK hN (hZ.kept hS) rfl hl.1 rfl (Nat.le_of_ble_eq_true rfl) dX3_readItem_22 ⟨Nat.le_of_ble_eq_true rfl, Nat.le_of_ble_eq_true rfl⟩ (fun r_49 hr_49 => ?_)
            obtain rfl := hr_49
            refine lv_icmp_ge (tgt := 82) hx hb dX3_readItem_25 (by decide) (fun c_50 => ?_) (fun c_50 => ?_)
            · refine lv_iload_n hx hb dX3_readItem_82 rfl (lv_at hl 1 rfl) ?_
              refine lv_if_ne (tgt := 101) hx hb dX3_readItem_83 (by decide) (fun c_51 => ?_) (fun c_51 => ?_)
              · refine lv_iload_n hx hb dX3_readItem_101 rfl (lv_at hl 1 rfl) ?_
                refine lv_iconst (v := 3) hx hb dX3_readItem_102 (by decide) ?_
                refine lv_icmp_ne (tgt := 116) hx hb dX3_readItem_103 (by decide) (fun c_52 => ?_) (fun c_52 => ?_)
                · exact W.vret hx hb hr (fun t ht hW => ⟨⟨(q_46, q_47, rt, ru, (upd (upd fi slot.toNatClampNeg 1) x_38.toNatClampNeg r_44)), rfl, ⟨(show 0 ≤ q_46.toInt ∧ q_46.toInt ≤ 160 from hbq_46), (show (-1) ≤ q_47.toInt ∧ q_47.toInt ≤ 160 from hbq_47), (show 0 ≤ rt.toInt ∧ rt.toInt ≤ 40 from ⟨hy9, hy10⟩), (show 0 ≤ ru.toInt ∧ ru.toInt ≤ 8 from ⟨hy11, hy12⟩), (show q_46.toInt ≤ rz.toInt from by omega), (show (q_47.toInt = -1 → zIt (upd (upd fi slot.toNatClampNeg 1) x_38.toNatClampNeg r_44) slot.toInt.toNat) from by (intro h; have e0 : slot.toNatClampNeg = slot.toInt.toNat + 0 := (by show (slot : Int32).toInt.toNat = _; omega); have e1 : x_38.toNatClampNeg = slot.toInt.toNat + 1 := (by show (x_38 : Int32).toInt.toNat = _; omega); have k3 : (1 : Int32).toInt = 1 := (by decide); first | (exfalso; omega) | exact zIt_mk (by simp only [upd]; rw [if_neg (by omega), if_pos (by omega)]) (by simp only [upd]; rw [if_pos (by omega)]) (rfl) (rfl) (by unfold zItv; refine ⟨?_, ?_, ?_, ?_, ?_, ?_, ?_, ?_, ?_, ?_, ?_⟩ <;> (intros; omega)))), (show (∀ j : Nat, j < slot.toInt.toNat → (upd (upd fi slot.toNatClampNeg 1) x_38.toNatClampNeg r_44) j = fi j) from by (intro j hj; have e0 : slot.toNatClampNeg = slot.toInt.toNat + 0 := (by show (slot : Int32).toInt.toNat = _; omega); have e1 : x_38.toNatClampNeg = slot.toInt.toNat + 1 := (by show (x_38 : Int32).toInt.toNat = _; omega); simp only [upd]; rw [if_neg (by omega), if_neg (by omega)])), trivial⟩, by rw [ht]; exact hP.sub (ws' := [(rd, .inr (3, [.ref ri, .ref rl, .int rz, .int rc, .int q_46, .int q_47, .int rt, .int ru])), (rl, .inl (cI, 160, .inl fl)), (ri, .inl (cI, 132, .inl (upd (upd fi slot.toNatClampNeg 1) x_38.toNatClampNeg r_44)))]) [1, 2, 0] rfl, hD.sub (ws' := [(rd, .inr (3, [.ref ri, .ref rl, .int rz, .int rc, .int q_46, .int q_47, .int rt, .int ru])), (rl, .inl (cI, 160, .inl fl)), (ri, .inl (cI, 132, .inl (upd (upd fi slot.toNatClampNeg 1) x_38.toNatClampNeg r_44)))]) [1, 2, 0] (by decide) rfl⟩, hS.F ht⟩) hS.2.2 dX3_readItem_116
                · exact absurd c_52 (by decide)
              · exact absurd c_51 (by decide)
            · exact absurd c_50 (by decide)
          · have fc_48 : q_47.toInt ≠ (-1) := zf_ne c_48 rfl (by decide)
            exact W.vret hx hb hr (fun t ht hW => ⟨⟨(q_46, q_47, rt, ru, (upd (upd fi slot.toNatClampNeg 1) x_38.toNatClampNeg r_44)), rfl, ⟨(show 0 ≤ q_46.toInt ∧ q_46.toInt ≤ 160 from hbq_46), (show (-1) ≤ q_47.toInt ∧ q_47.toInt ≤ 160 from hbq_47), (show 0 ≤ rt.toInt ∧ rt.toInt ≤ 40 from ⟨hy9, hy10⟩), (show 0 ≤ ru.toInt ∧ ru.toInt ≤ 8 from ⟨hy11, hy12⟩), (show q_46.toInt ≤ rz.toInt from by omega), (show (q_47.toInt = -1 → zIt (upd (upd fi slot.toNatClampNeg 1) x_38.toNatClampNeg r_44) slot.toInt.toNat) from by (intro h; have e0 : slot.toNatClampNeg = slot.toInt.toNat + 0 := (by show (slot : Int32).toInt.toNat = _; omega); have e1 : x_38.toNatClampNeg = slot.toInt.toNat + 1 := (by show (x_38 : Int32).toInt.toNat = _; omega); have k3 : (1 : Int32).toInt = 1 := (by decide); first | (exfalso; omega) | exact zIt_mk (by simp only [upd]; rw [if_neg (by omega), if_pos (by omega)]) (by simp only [upd]; rw [if_pos (by omega)]) (rfl) (rfl) (by unfold zItv; refine ⟨?_, ?_, ?_, ?_, ?_, ?_, ?_, ?_, ?_, ?_, ?_⟩ <;> (intros; omega)))), (show (∀ j : Nat, j < slot.toInt.toNat → (upd (upd fi slot.toNatClampNeg 1) x_38.toNatClampNeg r_44) j = fi j) from by (intro j hj; have e0 : slot.toNatClampNeg = slot.toInt.toNat + 0 := (by show (slot : Int32).toInt.toNat = _; omega); have e1 : x_38.toNatClampNeg = slot.toInt.toNat + 1 := (by show (x_38 : Int32).toInt.toNat = _; omega); simp only [upd]; rw [if_neg (by omega), if_neg (by omega)])), trivial⟩, by rw [ht]; exact hP.sub (ws' := [(rd, .inr (3, [.ref ri, .ref rl, .int rz, .int rc, .int q_46, .int q_47, .int rt, .int ru])), (rl, .inl (cI, 160, .inl fl)), (ri, .inl (cI, 132, .inl (upd (upd fi slot.toNatClampNeg 1) x_38.toNatClampNeg r_44)))]) [1, 2, 0] rfl, hD.sub (ws' := [(rd, .inr (3, [.ref ri, .ref rl, .int rz, .int rc, .int q_46, .int q_47, .int rt, .int ru])), (rl, .inl (cI, 160, .inl fl)), (ri, .inl (cI, 132, .inl (upd (upd fi slot.toNatClampNeg 1) x_38.toNatClampNeg r_44)))]) [1, 2, 0] (by decide) rfl⟩, hS.F ht⟩) hS.2.2 dX3_readItem_75
    · have kc2 : (2 : Int32).toInt = 2 := by decide
      refine lv_aload_n hx hb dX3_readItem_11 rfl (lv_at hl 1 rfl) ?_
      refine va_get (D := D) (ci := 3) (v := .ref ri) (C := RX3) (T := TX3) (N := 8) hx hb hts hi_X3_readItem_3 hown hK hP 1 rfl rfl 0 (by decide) (hts (.fieldLink RX3 11 "TheLiningsInIt$Reader" "items" "[I") (List.mem_of_getElem? (i := 1) rfl)) (fun _ h9 => h9) rfl dX3_readItem_12 ?_
      refine lv_iload_n hx hb dX3_readItem_15 rfl (lv_at hl 2 rfl) ?_
      refine lv_iload_n hx hb dX3_readItem_16 rfl (lv_at hl 0 rfl) ?_
      refine va_iast hx hb hK hP hD hS 0 0 rfl rfl (zf_in (by omega) (by omega)) dX3_readItem_17 (fun H locs hP hD hS => ?_)
      replace hP : va_P D vwCl [(ri, .inl (cI, 132, .inl (upd fi slot.toNatClampNeg 2))), (rd, .inr (3, [.ref ri, .ref rl, .int rz, .int rc, .int q_3, .int q_4, .int rt, .int ru])), (rl, .inl (cI, 160, .inl fl))] H := hP
      replace hD : va_D _ [(ri, .inl (cI, 132, .inl (upd fi slot.toNatClampNeg 2))), (rd, .inr (3, [.ref ri, .ref rl, .int rz, .int rc, .int q_3, .int q_4, .int rt, .int ru])), (rl, .inl (cI, 160, .inl fl))] := hD
      refine lv_iconst (v := 0) hx hb dX3_readItem_18 (by decide) ?_
      refine lv_istore_n (lv' := [(3, .int 0), (2, .int 2), (0, .ref rd), (1, .int slot)]) hx hb dX3_readItem_19 rfl hl (by decide) rfl (fun ls hl => ?_)
      refine lv_iload_n hx hb dX3_readItem_20 rfl (lv_at hl 0 rfl) ?_
      refine lv_iload_n hx hb dX3_readItem_21 rfl (lv_at hl 1 rfl) ?_
      refine zc_S (As := [.int 2]) (rest := [.int 0]) ⟨hx, hb, hml, hown, hts⟩ (c_R_numbersOf_2 l D cI cJ cZ cP cS po  ) (va_cwS 1 hts gX3_readItem_X3_numbersOf rfl rfl rfl (by decide +kernel) ⟨Nat.le_of_ble_eq_true rfl, Nat.le_of_ble_eq_true rfl⟩) hK hN (hZ.kept hS) rfl hl.1 rfl (Nat.le_of_ble_eq_true rfl) dX3_readItem_22 ⟨Nat.le_of_ble_eq_true rfl, Nat.le_of_ble_eq_true rfl⟩ (fun r_53 hr_53 => ?_)
      obtain rfl := hr_53
      refine lv_icmp_ge (tgt := 82) hx hb dX3_readItem_25 (by decide) (fun c_54 => ?_) (fun c_54 => ?_)
      · exact absurd c_54 (by decide)
      · refine lv_aload_n hx hb dX3_readItem_28 rfl (lv_at hl 2 rfl) ?_
        refine lv_bipush (v := 32) hx hb dX3_readItem_29 (by decide) ?_
        skip
        refine zw_Vv (As := [.int 32]) (rest := []) (wr := [(ri, .inl (cI, 132, .inl (upd fi slot.toNatClampNeg 2)))]) ⟨hx, hb, hml, hown, hts⟩ (c_R_expect l D cI cJ cZ cP cS po rd ri rl (rz) (rc) (q_3) (q_4) (rt) (ru) fl (32) hy0 hy1 hy2 hy3 hbq_3.1 hbq_3.2 (by omega) hbq_4.1 hbq_4.2 hy9 hy10 hy11 hy12 H.size) (cwV 1 hts gX3_readItem_X3_expect rfl rfl rfl (by decide +kernel) ⟨Nat.le_of_ble_eq_true rfl, Nat.le_of_ble_eq_true rfl⟩) hK hN (hZ.kept hS) hP hD hS hA [1, 2] [0] rfl rfl (by decide) (by decide) (by decide) (va_recv hK hP (ci := 3) (q0 := 1) rfl rfl) rfl hl.1 rfl (Nat.le_of_ble_eq_true rfl) dX3_readItem_31 ⟨Nat.le_of_ble_eq_true rfl, Nat.le_of_ble_eq_true rfl⟩ (fun u_56 H locs hr_55 hP hD hS => ?_)
        obtain ⟨q_57, q_58⟩ := u_56
        try dsimp only at hr_55
        obtain ⟨hbq_57, hbq_58, hsr_55_0, hsr_55_1, hr_55⟩ := hr_55
        replace hP : va_P D vwCl [(ri, .inl (cI, 132, .inl (upd fi slot.toNatClampNeg 2))), (rd, .inr (3, [.ref ri, .ref rl, .int rz, .int rc, .int q_57, .int q_58, .int rt, .int ru])), (rl, .inl (cI, 160, .inl fl))] H := hP
        replace hD : va_D _ [(ri, .inl (cI, 132, .inl (upd fi slot.toNatClampNeg 2))), (rd, .inr (3, [.ref ri, .ref rl, .int rz, .int rc, .int q_57, .int q_58, .int rt, .int ru])), (rl, .inl (cI, 160, .inl fl))] := hD
        refine lv_aload_n hx hb dX3_readItem_34 rfl (lv_at hl 2 rfl) ?_
        refine va_get (D := D) (ci := 3) (v := .int q_58) (C := RX3) (T := TX3) (N := 8) hx hb hts hi_X3_readItem_3 hown hK hP 1 rfl rfl 5 (by decide) (hts (.fieldLink RX3 28 "TheLiningsInIt$Reader" "fault" "I") (List.mem_of_getElem? (i := 2) rfl)) (fun _ h9 => h9) rfl dX3_readItem_35 ?_
        refine lv_iconst (v := (-1)) hx hb dX3_readItem_38 (by decide) ?_
        refine lv_icmp_ne (tgt := 67) hx hb dX3_readItem_39 (by decide) (fun c_59 => ?_) (fun c_59 => ?_)
        · have fc_59 : q_58.toInt ≠ (-1) := zf_ne c_59 rfl (by decide)
          refine lv_aload_n hx hb dX3_readItem_67 rfl (lv_at hl 2 rfl) ?_
          refine va_get (D := D) (ci := 3) (v := .int q_58) (C := RX3) (T := TX3) (N := 8) hx hb hts hi_X3_readItem_3 hown hK hP 1 rfl rfl 5 (by decide) (hts (.fieldLink RX3 28 "TheLiningsInIt$Reader" "fault" "I") (List.mem_of_getElem? (i := 2) rfl)) (fun _ h9 => h9) rfl dX3_readItem_68 ?_
          refine lv_iconst (v := (-1)) hx hb dX3_readItem_71 (by decide) ?_
          refine lv_icmp_eq (tgt := 76) hx hb dX3_readItem_72 (by decide) (fun c_60 => ?_) (fun c_60 => ?_)
          · exfalso; have fc_60 : q_58.toInt = (-1) := zf_eq c_60 rfl (by decide); omega
          · have fc_60 : q_58.toInt ≠ (-1) := zf_ne c_60 rfl (by decide)
            exact W.vret hx hb hr (fun t ht hW => ⟨⟨(q_57, q_58, rt, ru, (upd fi slot.toNatClampNeg 2)), rfl, ⟨(show 0 ≤ q_57.toInt ∧ q_57.toInt ≤ 160 from hbq_57), (show (-1) ≤ q_58.toInt ∧ q_58.toInt ≤ 160 from hbq_58), (show 0 ≤ rt.toInt ∧ rt.toInt ≤ 40 from ⟨hy9, hy10⟩), (show 0 ≤ ru.toInt ∧ ru.toInt ≤ 8 from ⟨hy11, hy12⟩), (show q_57.toInt ≤ rz.toInt from by omega), (show (q_58.toInt = -1 → zIt (upd fi slot.toNatClampNeg 2) slot.toInt.toNat) from by (intro h; have e0 : slot.toNatClampNeg = slot.toInt.toNat + 0 := (by show (slot : Int32).toInt.toNat = _; omega); have k2 : (2 : Int32).toInt = 2 := (by decide); first | (exfalso; omega) | exact zIt_mk (by simp only [upd]; rw [if_pos (by omega)]) (rfl) (rfl) (rfl) (by unfold zItv; refine ⟨?_, ?_, ?_, ?_, ?_, ?_, ?_, ?_, ?_, ?_, ?_⟩ <;> (intros; omega)))), (show (∀ j : Nat, j < slot.toInt.toNat → (upd fi slot.toNatClampNeg 2) j = fi j) from by (intro j hj; have e0 : slot.toNatClampNeg = slot.toInt.toNat + 0 := (by show (slot : Int32).toInt.toNat = _; omega); simp only [upd]; rw [if_neg (by omega)])), trivial⟩, by rw [ht]; exact hP.sub (ws' := [(rd, .inr (3, [.ref ri, .ref rl, .int rz, .int rc, .int q_57, .int q_58, .int rt, .int ru])), (rl, .inl (cI, 160, .inl fl)), (ri, .inl (cI, 132, .inl (upd fi slot.toNatClampNeg 2)))]) [1, 2, 0] rfl, hD.sub (ws' := [(rd, .inr (3, [.ref ri, .ref rl, .int rz, .int rc, .int q_57, .int q_58, .int rt, .int ru])), (rl, .inl (cI, 160, .inl fl)), (ri, .inl (cI, 132, .inl (upd fi slot.toNatClampNeg 2)))]) [1, 2, 0] (by decide) rfl⟩, hS.F ht⟩) hS.2.2 dX3_readItem_75
        · have fc_59 : q_58.toInt = (-1) := zf_eq c_59 rfl (by decide)
          refine lv_aload_n hx hb dX3_readItem_42 rfl (lv_at hl 2 rfl) ?_
          refine va_get (D := D) (ci := 3) (v := .ref ri) (C := RX3) (T := TX3) (N := 8) hx hb hts hi_X3_readItem_3 hown hK hP 1 rfl rfl 0 (by decide) (hts (.fieldLink RX3 11 "TheLiningsInIt$Reader" "items" "[I") (List.mem_of_getElem? (i := 1) rfl)) (fun _ h9 => h9) rfl dX3_readItem_43 ?_
          refine lv_iload_n hx hb dX3_readItem_46 rfl (lv_at hl 3 rfl) ?_
          refine lv_iconst (v := 1) hx hb dX3_readItem_47 (by decide) ?_
          refine lv_iadd hx hb dX3_readItem_48 ?_
          refine lv_topi (fun x_61 ex_61 => ?_)
          have qx_61 : x_61.toInt = slot.toInt + 1 := by rw [ex_61]; exact zf_add rfl (by decide) (by omega) (by omega)
          refine lv_iload_n hx hb dX3_readItem_49 rfl (lv_at hl 0 rfl) ?_
          refine lv_iadd hx hb dX3_readItem_50 ?_
          refine lv_topi (fun y_62 ey_62 => ?_)
          obtain rfl : x_61 = y_62 := (ey_62.trans (Int32.add_zero x_61)).symm
          refine lv_aload_n hx hb dX3_readItem_51 rfl (lv_at hl 2 rfl) ?_
          refine lv_iload_n hx hb dX3_readItem_52 rfl (lv_at hl 1 rfl) ?_
          refine lv_iload_n hx hb dX3_readItem_53 rfl (lv_at hl 0 rfl) ?_
          refine zc_S (As := [.int 2, .int 0]) (rest := [.ref rd, .int x_61, .ref ri]) ⟨hx, hb, hml, hown, hts⟩ (c_R_leastOf_2_0 l D cI cJ cZ cP cS po  ) (va_cwS 2 hts gX3_readItem_X3_leastOf rfl rfl rfl (by decide +kernel) ⟨Nat.le_of_ble_eq_true rfl, Nat.le_of_ble_eq_true rfl⟩) hK hN (hZ.kept hS) rfl hl.1 rfl (Nat.le_of_ble_eq_true rfl) dX3_readItem_54 ⟨Nat.le_of_ble_eq_true rfl, Nat.le_of_ble_eq_true rfl⟩ (fun r_63 hr_63 => ?_)
          obtain rfl := hr_63
          refine lv_aload_n hx hb dX3_readItem_57 rfl (lv_at hl 2 rfl) ?_
          refine lv_iload_n hx hb dX3_readItem_58 rfl (lv_at hl 1 rfl) ?_
          refine lv_iload_n hx hb dX3_readItem_59 rfl (lv_at hl 0 rfl) ?_
          refine zc_V (As := [.int 2, .int 0]) (rest := [.int 0, .ref rd, .int x_61, .ref ri]) ⟨hx, hb, hml, hown, hts⟩ (c_R_mostOf_2_0 l D cI cJ cZ cP cS po rd ri rl (rz) (rc) (q_57) (q_58) (rt) (ru) hy0 hy1 hy2 hy3 hbq_57.1 hbq_57.2 (by omega) hbq_58.1 hbq_58.2 hy9 hy10 hy11 hy12) (cwV 2 hts gX3_readItem_X3_mostOf rfl rfl rfl (by decide +kernel) ⟨Nat.le_of_ble_eq_true rfl, Nat.le_of_ble_eq_true rfl⟩) hK hN (hZ.kept hS) hP (hP.sub [1] rfl) (va_recv hK hP (ci := 3) (q0 := 1) rfl rfl) rfl hl.1 rfl (Nat.le_of_ble_eq_true rfl) dX3_readItem_60 ⟨Nat.le_of_ble_eq_true rfl, Nat.le_of_ble_eq_true rfl⟩ (fun r_64 hr_64 => ?_)
          obtain ⟨g_65, g_66, hsr_64_0⟩ := hr_64
          have kc0 : (0 : Int32).toInt = 0 := by decide
          skip
          refine zw_V (As := [.int 0, .int r_64]) (rest := [.int x_61, .ref ri]) (wr := [(ri, .inl (cI, 132, .inl (upd fi slot.toNatClampNeg 2)))]) ⟨hx, hb, hml, hown, hts⟩ (c_R_readNumber l D cI cJ cZ cP cS po rd ri rl (rz) (rc) (q_57) (q_58) (rt) (ru) fl (0) (r_64) hy0 hy1 hy2 hy3 hbq_57.1 hbq_57.2 (by omega) hbq_58.1 hbq_58.2 hy9 hy10 hy11 hy12 H.size) (cwV 2 hts gX3_readItem_X3_readNumber rfl rfl rfl (by decide +kernel) ⟨Nat.le_of_ble_eq_true rfl, Nat.le_of_ble_eq_true rfl⟩) hK hN (hZ.kept hS) hP hD hS hA [1, 2] [0] rfl rfl (by decide) (by decide) (by decide) (va_recv hK hP (ci := 3) (q0 := 1) rfl rfl) rfl hl.1 rfl (Nat.le_of_ble_eq_true rfl) dX3_readItem_63 ⟨Nat.le_of_ble_eq_true rfl, Nat.le_of_ble_eq_true rfl⟩ (fun r_67 u_68 H locs hr_67 hP hD hS => ?_)
          obtain ⟨q_69, q_70⟩ := u_68
          try dsimp only at hr_67
          obtain ⟨hbq_69, hbq_70, hsr_67_0, hsr_67_1, hr_67⟩ := hr_67
          replace hP : va_P D vwCl [(ri, .inl (cI, 132, .inl (upd fi slot.toNatClampNeg 2))), (rd, .inr (3, [.ref ri, .ref rl, .int rz, .int rc, .int q_69, .int q_70, .int rt, .int ru])), (rl, .inl (cI, 160, .inl fl))] H := hP
          replace hD : va_D _ [(ri, .inl (cI, 132, .inl (upd fi slot.toNatClampNeg 2))), (rd, .inr (3, [.ref ri, .ref rl, .int rz, .int rc, .int q_69, .int q_70, .int rt, .int ru])), (rl, .inl (cI, 160, .inl fl))] := hD
          refine va_iast hx hb hK hP hD hS 0 0 rfl rfl (zf_in (by omega) (by omega)) dX3_readItem_66 (fun H locs hP hD hS => ?_)
          replace hP : va_P D vwCl [(ri, .inl (cI, 132, .inl (upd (upd fi slot.toNatClampNeg 2) x_61.toNatClampNeg r_67))), (rd, .inr (3, [.ref ri, .ref rl, .int rz, .int rc, .int q_69, .int q_70, .int rt, .int ru])), (rl, .inl (cI, 160, .inl fl))] H := hP
          replace hD : va_D _ [(ri, .inl (cI, 132, .inl (upd (upd fi slot.toNatClampNeg 2) x_61.toNatClampNeg r_67))), (rd, .inr (3, [.ref ri, .ref rl, .int rz, .int rc, .int q_69, .int q_70, .int rt, .int ru])), (rl, .inl (cI, 160, .inl fl))] := hD
          refine lv_aload_n hx hb dX3_readItem_67 rfl (lv_at hl 2 rfl) ?_
          refine va_get (D := D) (ci := 3) (v := .int q_70) (C := RX3) (T := TX3) (N := 8) hx hb hts hi_X3_readItem_3 hown hK hP 1 rfl rfl 5 (by decide) (hts (.fieldLink RX3 28 "TheLiningsInIt$Reader" "fault" "I") (List.mem_of_getElem? (i := 2) rfl)) (fun _ h9 => h9) rfl dX3_readItem_68 ?_
          refine lv_iconst (v := (-1)) hx hb dX3_readItem_71 (by decide) ?_
          refine lv_icmp_eq (tgt := 76) hx hb dX3_readItem_72 (by decide) (fun c_71 => ?_) (fun c_71 => ?_)
          · have fc_71 : q_70.toInt = (-1) := zf_eq c_71 rfl (by decide)
            refine lv_iinc (v := 1) (lv' := [(3, .int 1), (2, .int 2), (0, .ref rd), (1, .int slot)]) hx hb dX3_readItem_76 hl (k := 0) rfl (by decide) (by decide) rfl (fun ls hl => ?_)
            refine lv_goto (tgt := 20) hx hb dX3_readItem_79 (by decide) ?_
            refine lv_iload_n hx hb dX3_readItem_20 rfl (lv_at hl 0 rfl) ?_
            refine lv_iload_n hx hb dX3_readItem_21 rfl (lv_at hl 1 rfl) ?_
            refine zc_S (As := [.int 2]) (rest := [.int 1]) ⟨hx, hb, hml, hown, hts⟩ (c_R_numbersOf_2 l D cI cJ cZ cP cS po  ) (va_cwS 1 hts gX3_readItem_X3_numbersOf rfl rfl rfl (by decide +kernel) ⟨Nat.le_of_ble_eq_true rfl, Nat.le_of_ble_eq_true rfl⟩) hK hN (hZ.kept hS) rfl hl.1 rfl (Nat.le_of_ble_eq_true rfl) dX3_readItem_22 ⟨Nat.le_of_ble_eq_true rfl, Nat.le_of_ble_eq_true rfl⟩ (fun r_72 hr_72 => ?_)
            obtain rfl := hr_72
            refine lv_icmp_ge (tgt := 82) hx hb dX3_readItem_25 (by decide) (fun c_73 => ?_) (fun c_73 => ?_)
            · exact absurd c_73 (by decide)
            · refine lv_aload_n hx hb dX3_readItem_28 rfl (lv_at hl 2 rfl) ?_
              refine lv_bipush (v := 32) hx hb dX3_readItem_29 (by decide) ?_
              skip
              refine zw_Vv (As := [.int 32]) (rest := []) (wr := [(ri, .inl (cI, 132, .inl (upd (upd fi slot.toNatClampNeg 2) x_61.toNatClampNeg r_67)))]) ⟨hx, hb, hml, hown, hts⟩ (c_R_expect l D cI cJ cZ cP cS po rd ri rl (rz) (rc) (q_69) (q_70) (rt) (ru) fl (32) hy0 hy1 hy2 hy3 hbq_69.1 hbq_69.2 (by omega) hbq_70.1 hbq_70.2 hy9 hy10 hy11 hy12 H.size) (cwV 1 hts gX3_readItem_X3_expect rfl rfl rfl (by decide +kernel) ⟨Nat.le_of_ble_eq_true rfl, Nat.le_of_ble_eq_true rfl⟩) hK hN (hZ.kept hS) hP hD hS hA [1, 2] [0] rfl rfl (by decide) (by decide) (by decide) (va_recv hK hP (ci := 3) (q0 := 1) rfl rfl) rfl hl.1 rfl (Nat.le_of_ble_eq_true rfl) dX3_readItem_31 ⟨Nat.le_of_ble_eq_true rfl, Nat.le_of_ble_eq_true rfl⟩ (fun u_75 H locs hr_74 hP hD hS => ?_)
              obtain ⟨q_76, q_77⟩ := u_75
              try dsimp only at hr_74
              obtain ⟨hbq_76, hbq_77, hsr_74_0, hsr_74_1, hr_74⟩ := hr_74
              replace hP : va_P D vwCl [(ri, .inl (cI, 132, .inl (upd (upd fi slot.toNatClampNeg 2) x_61.toNatClampNeg r_67))), (rd, .inr (3, [.ref ri, .ref rl, .int rz, .int rc, .int q_76, .int q_77, .int rt, .int ru])), (rl, .inl (cI, 160, .inl fl))] H := hP
              replace hD : va_D _ [(ri, .inl (cI, 132, .inl (upd (upd fi slot.toNatClampNeg 2) x_61.toNatClampNeg r_67))), (rd, .inr (3, [.ref ri, .ref rl, .int rz, .int rc, .int q_76, .int q_77, .int rt, .int ru])), (rl, .inl (cI, 160, .inl fl))] := hD
              refine lv_aload_n hx hb dX3_readItem_34 rfl (lv_at hl 2 rfl) ?_
              refine va_get (D := D) (ci := 3) (v := .int q_77) (C := RX3) (T := TX3) (N := 8) hx hb hts hi_X3_readItem_3 hown hK hP 1 rfl rfl 5 (by decide) (hts (.fieldLink RX3 28 "TheLiningsInIt$Reader" "fault" "I") (List.mem_of_getElem? (i := 2) rfl)) (fun _ h9 => h9) rfl dX3_readItem_35 ?_
              refine lv_iconst (v := (-1)) hx hb dX3_readItem_38 (by decide) ?_
              refine lv_icmp_ne (tgt := 67) hx hb dX3_readItem_39 (by decide) (fun c_78 => ?_) (fun c_78 => ?_)
              · have fc_78 : q_77.toInt ≠ (-1) := zf_ne c_78 rfl (by decide)
                refine lv_aload_n hx hb dX3_readItem_67 rfl (lv_at hl 2 rfl) ?_
                refine va_get (D := D) (ci := 3) (v := .int q_77) (C := RX3) (T := TX3) (N := 8) hx hb hts hi_X3_readItem_3 hown hK hP 1 rfl rfl 5 (by decide) (hts (.fieldLink RX3 28 "TheLiningsInIt$Reader" "fault" "I") (List.mem_of_getElem? (i := 2) rfl)) (fun _ h9 => h9) rfl dX3_readItem_68 ?_
                refine lv_iconst (v := (-1)) hx hb dX3_readItem_71 (by decide) ?_
                refine lv_icmp_eq (tgt := 76) hx hb dX3_readItem_72 (by decide) (fun c_79 => ?_) (fun c_79 => ?_)
                · exfalso; have fc_79 : q_77.toInt = (-1) := zf_eq c_79 rfl (by decide); omega
                · have fc_79 : q_77.toInt ≠ (-1) := zf_ne c_79 rfl (by decide)
                  exact W.vret hx hb hr (fun t ht hW => ⟨⟨(q_76, q_77, rt, ru, (upd (upd fi slot.toNatClampNeg 2) x_61.toNatClampNeg r_67)), rfl, ⟨(show 0 ≤ q_76.toInt ∧ q_76.toInt ≤ 160 from hbq_76), (show (-1) ≤ q_77.toInt ∧ q_77.toInt ≤ 160 from hbq_77), (show 0 ≤ rt.toInt ∧ rt.toInt ≤ 40 from ⟨hy9, hy10⟩), (show 0 ≤ ru.toInt ∧ ru.toInt ≤ 8 from ⟨hy11, hy12⟩), (show q_76.toInt ≤ rz.toInt from by omega), (show (q_77.toInt = -1 → zIt (upd (upd fi slot.toNatClampNeg 2) x_61.toNatClampNeg r_67) slot.toInt.toNat) from by (intro h; have e0 : slot.toNatClampNeg = slot.toInt.toNat + 0 := (by show (slot : Int32).toInt.toNat = _; omega); have e1 : x_61.toNatClampNeg = slot.toInt.toNat + 1 := (by show (x_61 : Int32).toInt.toNat = _; omega); have k3 : (2 : Int32).toInt = 2 := (by decide); first | (exfalso; omega) | exact zIt_mk (by simp only [upd]; rw [if_neg (by omega), if_pos (by omega)]) (by simp only [upd]; rw [if_pos (by omega)]) (rfl) (rfl) (by unfold zItv; refine ⟨?_, ?_, ?_, ?_, ?_, ?_, ?_, ?_, ?_, ?_, ?_⟩ <;> (intros; omega)))), (show (∀ j : Nat, j < slot.toInt.toNat → (upd (upd fi slot.toNatClampNeg 2) x_61.toNatClampNeg r_67) j = fi j) from by (intro j hj; have e0 : slot.toNatClampNeg = slot.toInt.toNat + 0 := (by show (slot : Int32).toInt.toNat = _; omega); have e1 : x_61.toNatClampNeg = slot.toInt.toNat + 1 := (by show (x_61 : Int32).toInt.toNat = _; omega); simp only [upd]; rw [if_neg (by omega), if_neg (by omega)])), trivial⟩, by rw [ht]; exact hP.sub (ws' := [(rd, .inr (3, [.ref ri, .ref rl, .int rz, .int rc, .int q_76, .int q_77, .int rt, .int ru])), (rl, .inl (cI, 160, .inl fl)), (ri, .inl (cI, 132, .inl (upd (upd fi slot.toNatClampNeg 2) x_61.toNatClampNeg r_67)))]) [1, 2, 0] rfl, hD.sub (ws' := [(rd, .inr (3, [.ref ri, .ref rl, .int rz, .int rc, .int q_76, .int q_77, .int rt, .int ru])), (rl, .inl (cI, 160, .inl fl)), (ri, .inl (cI, 132, .inl (upd (upd fi slot.toNatClampNeg 2) x_61.toNatClampNeg r_67)))]) [1, 2, 0] (by decide) rfl⟩, hS.F ht⟩) hS.2.2 dX3_readItem_75
              · have fc_78 : q_77.toInt = (-1) := zf_eq c_78 rfl (by decide)
                refine lv_aload_n hx hb dX3_readItem_42 rfl (lv_at hl 2 rfl) ?_
                refine va_get (D := D) (ci := 3) (v := .ref ri) (C := RX3) (T := TX3) (N := 8) hx hb hts hi_X3_readItem_3 hown hK hP 1 rfl rfl 0 (by decide) (hts (.fieldLink RX3 11 "TheLiningsInIt$Reader" "items" "[I") (List.mem_of_getElem? (i := 1) rfl)) (fun _ h9 => h9) rfl dX3_readItem_43 ?_
                refine lv_iload_n hx hb dX3_readItem_46 rfl (lv_at hl 3 rfl) ?_
                refine lv_iconst (v := 1) hx hb dX3_readItem_47 (by decide) ?_
                refine lv_iadd hx hb dX3_readItem_48 ?_
                refine lv_topi (fun y_80 ey_80 => ?_)
                obtain rfl : x_61 = y_80 := ex_61.trans ey_80.symm
                refine lv_iload_n hx hb dX3_readItem_49 rfl (lv_at hl 0 rfl) ?_
                refine lv_iadd hx hb dX3_readItem_50 ?_
                refine lv_topi (fun x_81 ex_81 => ?_)
                have qx_81 : x_81.toInt = x_61.toInt + 1 := by rw [ex_81]; exact zf_add rfl (by decide) (by omega) (by omega)
                refine lv_aload_n hx hb dX3_readItem_51 rfl (lv_at hl 2 rfl) ?_
                refine lv_iload_n hx hb dX3_readItem_52 rfl (lv_at hl 1 rfl) ?_
                refine lv_iload_n hx hb dX3_readItem_53 rfl (lv_at hl 0 rfl) ?_
                refine zc_S (As := [.int 2, .int 1]) (rest := [.ref rd, .int x_81, .ref ri]) ⟨hx, hb, hml, hown, hts⟩ (c_R_leastOf_2_1 l D cI cJ cZ cP cS po  ) (va_cwS 2 hts gX3_readItem_X3_leastOf rfl rfl rfl (by decide +kernel) ⟨Nat.le_of_ble_eq_true rfl, Nat.le_of_ble_eq_true rfl⟩) hK hN (hZ.kept hS) rfl hl.1 rfl (Nat.le_of_ble_eq_true rfl) dX3_readItem_54 ⟨Nat.le_of_ble_eq_true rfl, Nat.le_of_ble_eq_true rfl⟩ (fun r_82 hr_82 => ?_)
                obtain rfl := hr_82
                refine lv_aload_n hx hb dX3_readItem_57 rfl (lv_at hl 2 rfl) ?_
                refine lv_iload_n hx hb dX3_readItem_58 rfl (lv_at hl 1 rfl) ?_
                refine lv_iload_n hx hb dX3_readItem_59 rfl (lv_at hl 0 rfl) ?_
                refine zc_V (As := [.int 2, .int 1]) (rest := [.int 0, .ref rd, .int x_81, .ref ri]) ⟨hx, hb, hml, hown, hts⟩ (c_R_mostOf_2_1 l D cI cJ cZ cP cS po rd ri rl (rz) (rc) (q_76) (q_77) (rt) (ru) hy0 hy1 hy2 hy3 hbq_76.1 hbq_76.2 (by omega) hbq_77.1 hbq_77.2 hy9 hy10 hy11 hy12) (cwV 2 hts gX3_readItem_X3_mostOf rfl rfl rfl (by decide +kernel) ⟨Nat.le_of_ble_eq_true rfl, Nat.le_of_ble_eq_true rfl⟩) hK hN (hZ.kept hS) hP (hP.sub [1] rfl) (va_recv hK hP (ci := 3) (q0 := 1) rfl rfl) rfl hl.1 rfl (Nat.le_of_ble_eq_true rfl) dX3_readItem_60 ⟨Nat.le_of_ble_eq_true rfl, Nat.le_of_ble_eq_true rfl⟩ (fun r_83 hr_83 => ?_)
                obtain rfl := hr_83
                have kc9 : (9 : Int32).toInt = 9 := by decide
                skip
                refine zw_V (As := [.int 0, .int 9]) (rest := [.int x_81, .ref ri]) (wr := [(ri, .inl (cI, 132, .inl (upd (upd fi slot.toNatClampNeg 2) x_61.toNatClampNeg r_67)))]) ⟨hx, hb, hml, hown, hts⟩ (c_R_readNumber l D cI cJ cZ cP cS po rd ri rl (rz) (rc) (q_76) (q_77) (rt) (ru) fl (0) (9) hy0 hy1 hy2 hy3 hbq_76.1 hbq_76.2 (by omega) hbq_77.1 hbq_77.2 hy9 hy10 hy11 hy12 H.size) (cwV 2 hts gX3_readItem_X3_readNumber rfl rfl rfl (by decide +kernel) ⟨Nat.le_of_ble_eq_true rfl, Nat.le_of_ble_eq_true rfl⟩) hK hN (hZ.kept hS) hP hD hS hA [1, 2] [0] rfl rfl (by decide) (by decide) (by decide) (va_recv hK hP (ci := 3) (q0 := 1) rfl rfl) rfl hl.1 rfl (Nat.le_of_ble_eq_true rfl) dX3_readItem_63 ⟨Nat.le_of_ble_eq_true rfl, Nat.le_of_ble_eq_true rfl⟩ (fun r_84 u_85 H locs hr_84 hP hD hS => ?_)
                obtain ⟨q_86, q_87⟩ := u_85
                try dsimp only at hr_84
                obtain ⟨hbq_86, hbq_87, hsr_84_0, hsr_84_1, hr_84⟩ := hr_84
                replace hP : va_P D vwCl [(ri, .inl (cI, 132, .inl (upd (upd fi slot.toNatClampNeg 2) x_61.toNatClampNeg r_67))), (rd, .inr (3, [.ref ri, .ref rl, .int rz, .int rc, .int q_86, .int q_87, .int rt, .int ru])), (rl, .inl (cI, 160, .inl fl))] H := hP
                replace hD : va_D _ [(ri, .inl (cI, 132, .inl (upd (upd fi slot.toNatClampNeg 2) x_61.toNatClampNeg r_67))), (rd, .inr (3, [.ref ri, .ref rl, .int rz, .int rc, .int q_86, .int q_87, .int rt, .int ru])), (rl, .inl (cI, 160, .inl fl))] := hD
                refine va_iast hx hb hK hP hD hS 0 0 rfl rfl (zf_in (by omega) (by omega)) dX3_readItem_66 (fun H locs hP hD hS => ?_)
                replace hP : va_P D vwCl [(ri, .inl (cI, 132, .inl (upd (upd (upd fi slot.toNatClampNeg 2) x_61.toNatClampNeg r_67) x_81.toNatClampNeg r_84))), (rd, .inr (3, [.ref ri, .ref rl, .int rz, .int rc, .int q_86, .int q_87, .int rt, .int ru])), (rl, .inl (cI, 160, .inl fl))] H := hP
                replace hD : va_D _ [(ri, .inl (cI, 132, .inl (upd (upd (upd fi slot.toNatClampNeg 2) x_61.toNatClampNeg r_67) x_81.toNatClampNeg r_84))), (rd, .inr (3, [.ref ri, .ref rl, .int rz, .int rc, .int q_86, .int q_87, .int rt, .int ru])), (rl, .inl (cI, 160, .inl fl))] := hD
                refine lv_aload_n hx hb dX3_readItem_67 rfl (lv_at hl 2 rfl) ?_
                refine va_get (D := D) (ci := 3) (v := .int q_87) (C := RX3) (T := TX3) (N := 8) hx hb hts hi_X3_readItem_3 hown hK hP 1 rfl rfl 5 (by decide) (hts (.fieldLink RX3 28 "TheLiningsInIt$Reader" "fault" "I") (List.mem_of_getElem? (i := 2) rfl)) (fun _ h9 => h9) rfl dX3_readItem_68 ?_
                refine lv_iconst (v := (-1)) hx hb dX3_readItem_71 (by decide) ?_
                refine lv_icmp_eq (tgt := 76) hx hb dX3_readItem_72 (by decide) (fun c_88 => ?_) (fun c_88 => ?_)
                · have fc_88 : q_87.toInt = (-1) := zf_eq c_88 rfl (by decide)
                  refine lv_iinc (v := 2) (lv' := [(3, .int 2), (2, .int 2), (0, .ref rd), (1, .int slot)]) hx hb dX3_readItem_76 hl (k := 0) rfl (by decide) (by decide) rfl (fun ls hl => ?_)
                  refine lv_goto (tgt := 20) hx hb dX3_readItem_79 (by decide) ?_
                  refine lv_iload_n hx hb dX3_readItem_20 rfl (lv_at hl 0 rfl) ?_
                  refine lv_iload_n hx hb dX3_readItem_21 rfl (lv_at hl 1 rfl) ?_
                  refine zc_S (As := [.int 2]) (rest := [.int 2]) ⟨hx, hb, hml, hown, hts⟩ (c_R_numbersOf_2 l D cI cJ cZ cP cS po  ) (va_cwS 1 hts gX3_readItem_X3_numbersOf rfl rfl rfl (by decide +kernel) ⟨Nat.le_of_ble_eq_true rfl, Nat.le_of_ble_eq_true rfl⟩) hK hN (hZ.kept hS) rfl hl.1 rfl (Nat.le_of_ble_eq_true rfl) dX3_readItem_22 ⟨Nat.le_of_ble_eq_true rfl, Nat.le_of_ble_eq_true rfl⟩ (fun r_89 hr_89 => ?_)
                  obtain rfl := hr_89
                  refine lv_icmp_ge (tgt := 82) hx hb dX3_readItem_25 (by decide) (fun c_90 => ?_) (fun c_90 => ?_)
                  · refine lv_iload_n hx hb dX3_readItem_82 rfl (lv_at hl 1 rfl) ?_
                    refine lv_if_ne (tgt := 101) hx hb dX3_readItem_83 (by decide) (fun c_91 => ?_) (fun c_91 => ?_)
                    · refine lv_iload_n hx hb dX3_readItem_101 rfl (lv_at hl 1 rfl) ?_
                      refine lv_iconst (v := 3) hx hb dX3_readItem_102 (by decide) ?_
                      refine lv_icmp_ne (tgt := 116) hx hb dX3_readItem_103 (by decide) (fun c_92 => ?_) (fun c_92 => ?_)
                      · exact W.vret hx hb hr (fun t ht hW => ⟨⟨(q_86, q_87, rt, ru, (upd (upd (upd fi slot.toNatClampNeg 2) x_61.toNatClampNeg r_67) x_81.toNatClampNeg r_84)), rfl, ⟨(show 0 ≤ q_86.toInt ∧ q_86.toInt ≤ 160 from hbq_86), (show (-1) ≤ q_87.toInt ∧ q_87.toInt ≤ 160 from hbq_87), (show 0 ≤ rt.toInt ∧ rt.toInt ≤ 40 from ⟨hy9, hy10⟩), (show 0 ≤ ru.toInt ∧ ru.toInt ≤ 8 from ⟨hy11, hy12⟩), (show q_86.toInt ≤ rz.toInt from by omega), (show (q_87.toInt = -1 → zIt (upd (upd (upd fi slot.toNatClampNeg 2) x_61.toNatClampNeg r_67) x_81.toNatClampNeg r_84) slot.toInt.toNat) from by (intro h; have e0 : slot.toNatClampNeg = slot.toInt.toNat + 0 := (by show (slot : Int32).toInt.toNat = _; omega); have e1 : x_61.toNatClampNeg = slot.toInt.toNat + 1 := (by show (x_61 : Int32).toInt.toNat = _; omega); have e2 : x_81.toNatClampNeg = slot.toInt.toNat + 2 := (by show (x_81 : Int32).toInt.toNat = _; omega); have k4 : (2 : Int32).toInt = 2 := (by decide); first | (exfalso; omega) | exact zIt_mk (by simp only [upd]; rw [if_neg (by omega), if_neg (by omega), if_pos (by omega)]) (by simp only [upd]; rw [if_neg (by omega), if_pos (by omega)]) (by simp only [upd]; rw [if_pos (by omega)]) (rfl) (by unfold zItv; refine ⟨?_, ?_, ?_, ?_, ?_, ?_, ?_, ?_, ?_, ?_, ?_⟩ <;> (intros; omega)))), (show (∀ j : Nat, j < slot.toInt.toNat → (upd (upd (upd fi slot.toNatClampNeg 2) x_61.toNatClampNeg r_67) x_81.toNatClampNeg r_84) j = fi j) from by (intro j hj; have e0 : slot.toNatClampNeg = slot.toInt.toNat + 0 := (by show (slot : Int32).toInt.toNat = _; omega); have e1 : x_61.toNatClampNeg = slot.toInt.toNat + 1 := (by show (x_61 : Int32).toInt.toNat = _; omega); have e2 : x_81.toNatClampNeg = slot.toInt.toNat + 2 := (by show (x_81 : Int32).toInt.toNat = _; omega); simp only [upd]; rw [if_neg (by omega), if_neg (by omega), if_neg (by omega)])), trivial⟩, by rw [ht]; exact hP.sub (ws' := [(rd, .inr (3, [.ref ri, .ref rl, .int rz, .int rc, .int q_86, .int q_87, .int rt, .int ru])), (rl, .inl (cI, 160, .inl fl)), (ri, .inl (cI, 132, .inl (upd (upd (upd fi slot.toNatClampNeg 2) x_61.toNatClampNeg r_67) x_81.toNatClampNeg r_84)))]) [1, 2, 0] rfl, hD.sub (ws' := [(rd, .inr (3, [.ref ri, .ref rl, .int rz, .int rc, .int q_86, .int q_87, .int rt, .int ru])), (rl, .inl (cI, 160, .inl fl)), (ri, .inl (cI, 132, .inl (upd (upd (upd fi slot.toNatClampNeg 2) x_61.toNatClampNeg r_67) x_81.toNatClampNeg r_84)))]) [1, 2, 0] (by decide) rfl⟩, hS.F ht⟩) hS.2.2 dX3_readItem_116
                      · exact absurd c_92 (by decide)
                    · exact absurd c_91 (by decide)
                  · exact absurd c_90 (by decide)
                · have fc_88 : q_87.toInt ≠ (-1) := zf_ne c_88 rfl (by decide)
                  exact W.vret hx hb hr (fun t ht hW => ⟨⟨(q_86, q_87, rt, ru, (upd (upd (upd fi slot.toNatClampNeg 2) x_61.toNatClampNeg r_67) x_81.toNatClampNeg r_84)), rfl, ⟨(show 0 ≤ q_86.toInt ∧ q_86.toInt ≤ 160 from hbq_86), (show (-1) ≤ q_87.toInt ∧ q_87.toInt ≤ 160 from hbq_87), (show 0 ≤ rt.toInt ∧ rt.toInt ≤ 40 from ⟨hy9, hy10⟩), (show 0 ≤ ru.toInt ∧ ru.toInt ≤ 8 from ⟨hy11, hy12⟩), (show q_86.toInt ≤ rz.toInt from by omega), (show (q_87.toInt = -1 → zIt (upd (upd (upd fi slot.toNatClampNeg 2) x_61.toNatClampNeg r_67) x_81.toNatClampNeg r_84) slot.toInt.toNat) from by (intro h; have e0 : slot.toNatClampNeg = slot.toInt.toNat + 0 := (by show (slot : Int32).toInt.toNat = _; omega); have e1 : x_61.toNatClampNeg = slot.toInt.toNat + 1 := (by show (x_61 : Int32).toInt.toNat = _; omega); have e2 : x_81.toNatClampNeg = slot.toInt.toNat + 2 := (by show (x_81 : Int32).toInt.toNat = _; omega); have k4 : (2 : Int32).toInt = 2 := (by decide); first | (exfalso; omega) | exact zIt_mk (by simp only [upd]; rw [if_neg (by omega), if_neg (by omega), if_pos (by omega)]) (by simp only [upd]; rw [if_neg (by omega), if_pos (by omega)]) (by simp only [upd]; rw [if_pos (by omega)]) (rfl) (by unfold zItv; refine ⟨?_, ?_, ?_, ?_, ?_, ?_, ?_, ?_, ?_, ?_, ?_⟩ <;> (intros; omega)))), (show (∀ j : Nat, j < slot.toInt.toNat → (upd (upd (upd fi slot.toNatClampNeg 2) x_61.toNatClampNeg r_67) x_81.toNatClampNeg r_84) j = fi j) from by (intro j hj; have e0 : slot.toNatClampNeg = slot.toInt.toNat + 0 := (by show (slot : Int32).toInt.toNat = _; omega); have e1 : x_61.toNatClampNeg = slot.toInt.toNat + 1 := (by show (x_61 : Int32).toInt.toNat = _; omega); have e2 : x_81.toNatClampNeg = slot.toInt.toNat + 2 := (by show (x_81 : Int32).toInt.toNat = _; omega); simp only [upd]; rw [if_neg (by omega), if_neg (by omega), if_neg (by omega)])), trivial⟩, by rw [ht]; exact hP.sub (ws' := [(rd, .inr (3, [.ref ri, .ref rl, .int rz, .int rc, .int q_86, .int q_87, .int rt, .int ru])), (rl, .inl (cI, 160, .inl fl)), (ri, .inl (cI, 132, .inl (upd (upd (upd fi slot.toNatClampNeg 2) x_61.toNatClampNeg r_67) x_81.toNatClampNeg r_84)))]) [1, 2, 0] rfl, hD.sub (ws' := [(rd, .inr (3, [.ref ri, .ref rl, .int rz, .int rc, .int q_86, .int q_87, .int rt, .int ru])), (rl, .inl (cI, 160, .inl fl)), (ri, .inl (cI, 132, .inl (upd (upd (upd fi slot.toNatClampNeg 2) x_61.toNatClampNeg r_67) x_81.toNatClampNeg r_84)))]) [1, 2, 0] (by decide) rfl⟩, hS.F ht⟩) hS.2.2 dX3_readItem_75
          · have fc_71 : q_70.toInt ≠ (-1) := zf_ne c_71 rfl (by decide)
            exact W.vret hx hb hr (fun t ht hW => ⟨⟨(q_69, q_70, rt, ru, (upd (upd fi slot.toNatClampNeg 2) x_61.toNatClampNeg r_67)), rfl, ⟨(show 0 ≤ q_69.toInt ∧ q_69.toInt ≤ 160 from hbq_69), (show (-1) ≤ q_70.toInt ∧ q_70.toInt ≤ 160 from hbq_70), (show 0 ≤ rt.toInt ∧ rt.toInt ≤ 40 from ⟨hy9, hy10⟩), (show 0 ≤ ru.toInt ∧ ru.toInt ≤ 8 from ⟨hy11, hy12⟩), (show q_69.toInt ≤ rz.toInt from by omega), (show (q_70.toInt = -1 → zIt (upd (upd fi slot.toNatClampNeg 2) x_61.toNatClampNeg r_67) slot.toInt.toNat) from by (intro h; have e0 : slot.toNatClampNeg = slot.toInt.toNat + 0 := (by show (slot : Int32).toInt.toNat = _; omega); have e1 : x_61.toNatClampNeg = slot.toInt.toNat + 1 := (by show (x_61 : Int32).toInt.toNat = _; omega); have k3 : (2 : Int32).toInt = 2 := (by decide); first | (exfalso; omega) | exact zIt_mk (by simp only [upd]; rw [if_neg (by omega), if_pos (by omega)]) (by simp only [upd]; rw [if_pos (by omega)]) (rfl) (rfl) (by unfold zItv; refine ⟨?_, ?_, ?_, ?_, ?_, ?_, ?_, ?_, ?_, ?_, ?_⟩ <;> (intros; omega)))), (show (∀ j : Nat, j < slot.toInt.toNat → (upd (upd fi slot.toNatClampNeg 2) x_61.toNatClampNeg r_67) j = fi j) from by (intro j hj; have e0 : slot.toNatClampNeg = slot.toInt.toNat + 0 := (by show (slot : Int32).toInt.toNat = _; omega); have e1 : x_61.toNatClampNeg = slot.toInt.toNat + 1 := (by show (x_61 : Int32).toInt.toNat = _; omega); simp only [upd]; rw [if_neg (by omega), if_neg (by omega)])), trivial⟩, by rw [ht]; exact hP.sub (ws' := [(rd, .inr (3, [.ref ri, .ref rl, .int rz, .int rc, .int q_69, .int q_70, .int rt, .int ru])), (rl, .inl (cI, 160, .inl fl)), (ri, .inl (cI, 132, .inl (upd (upd fi slot.toNatClampNeg 2) x_61.toNatClampNeg r_67)))]) [1, 2, 0] rfl, hD.sub (ws' := [(rd, .inr (3, [.ref ri, .ref rl, .int rz, .int rc, .int q_69, .int q_70, .int rt, .int ru])), (rl, .inl (cI, 160, .inl fl)), (ri, .inl (cI, 132, .inl (upd (upd fi slot.toNatClampNeg 2) x_61.toNatClampNeg r_67)))]) [1, 2, 0] (by decide) rfl⟩, hS.F ht⟩) hS.2.2 dX3_readItem_75
    · have kc3 : (3 : Int32).toInt = 3 := by decide
      refine lv_aload_n hx hb dX3_readItem_11 rfl (lv_at hl 1 rfl) ?_
      refine va_get (D := D) (ci := 3) (v := .ref ri) (C := RX3) (T := TX3) (N := 8) hx hb hts hi_X3_readItem_3 hown hK hP 1 rfl rfl 0 (by decide) (hts (.fieldLink RX3 11 "TheLiningsInIt$Reader" "items" "[I") (List.mem_of_getElem? (i := 1) rfl)) (fun _ h9 => h9) rfl dX3_readItem_12 ?_
      refine lv_iload_n hx hb dX3_readItem_15 rfl (lv_at hl 2 rfl) ?_
      refine lv_iload_n hx hb dX3_readItem_16 rfl (lv_at hl 0 rfl) ?_
      refine va_iast hx hb hK hP hD hS 0 0 rfl rfl (zf_in (by omega) (by omega)) dX3_readItem_17 (fun H locs hP hD hS => ?_)
      replace hP : va_P D vwCl [(ri, .inl (cI, 132, .inl (upd fi slot.toNatClampNeg 3))), (rd, .inr (3, [.ref ri, .ref rl, .int rz, .int rc, .int q_3, .int q_4, .int rt, .int ru])), (rl, .inl (cI, 160, .inl fl))] H := hP
      replace hD : va_D _ [(ri, .inl (cI, 132, .inl (upd fi slot.toNatClampNeg 3))), (rd, .inr (3, [.ref ri, .ref rl, .int rz, .int rc, .int q_3, .int q_4, .int rt, .int ru])), (rl, .inl (cI, 160, .inl fl))] := hD
      refine lv_iconst (v := 0) hx hb dX3_readItem_18 (by decide) ?_
      refine lv_istore_n (lv' := [(3, .int 0), (2, .int 3), (0, .ref rd), (1, .int slot)]) hx hb dX3_readItem_19 rfl hl (by decide) rfl (fun ls hl => ?_)
      refine lv_iload_n hx hb dX3_readItem_20 rfl (lv_at hl 0 rfl) ?_
      refine lv_iload_n hx hb dX3_readItem_21 rfl (lv_at hl 1 rfl) ?_
      refine zc_S (As := [.int 3]) (rest := [.int 0]) ⟨hx, hb, hml, hown, hts⟩ (c_R_numbersOf_3 l D cI cJ cZ cP cS po  ) (va_cwS 1 hts gX3_readItem_X3_numbersOf rfl rfl rfl (by decide +kernel) ⟨Nat.le_of_ble_eq_true rfl, Nat.le_of_ble_eq_true rfl⟩) hK hN (hZ.kept hS) rfl hl.1 rfl (Nat.le_of_ble_eq_true rfl) dX3_readItem_22 ⟨Nat.le_of_ble_eq_true rfl, Nat.le_of_ble_eq_true rfl⟩ (fun r_93 hr_93 => ?_)
      obtain rfl := hr_93
      refine lv_icmp_ge (tgt := 82) hx hb dX3_readItem_25 (by decide) (fun c_94 => ?_) (fun c_94 => ?_)
      · exact absurd c_94 (by decide)
      · refine lv_aload_n hx hb dX3_readItem_28 rfl (lv_at hl 2 rfl) ?_
        refine lv_bipush (v := 32) hx hb dX3_readItem_29 (by decide) ?_
        skip
        refine zw_Vv (As := [.int 32]) (rest := []) (wr := [(ri, .inl (cI, 132, .inl (upd fi slot.toNatClampNeg 3)))]) ⟨hx, hb, hml, hown, hts⟩ (c_R_expect l D cI cJ cZ cP cS po rd ri rl (rz) (rc) (q_3) (q_4) (rt) (ru) fl (32) hy0 hy1 hy2 hy3 hbq_3.1 hbq_3.2 (by omega) hbq_4.1 hbq_4.2 hy9 hy10 hy11 hy12 H.size) (cwV 1 hts gX3_readItem_X3_expect rfl rfl rfl (by decide +kernel) ⟨Nat.le_of_ble_eq_true rfl, Nat.le_of_ble_eq_true rfl⟩) hK hN (hZ.kept hS) hP hD hS hA [1, 2] [0] rfl rfl (by decide) (by decide) (by decide) (va_recv hK hP (ci := 3) (q0 := 1) rfl rfl) rfl hl.1 rfl (Nat.le_of_ble_eq_true rfl) dX3_readItem_31 ⟨Nat.le_of_ble_eq_true rfl, Nat.le_of_ble_eq_true rfl⟩ (fun u_96 H locs hr_95 hP hD hS => ?_)
        obtain ⟨q_97, q_98⟩ := u_96
        try dsimp only at hr_95
        obtain ⟨hbq_97, hbq_98, hsr_95_0, hsr_95_1, hr_95⟩ := hr_95
        replace hP : va_P D vwCl [(ri, .inl (cI, 132, .inl (upd fi slot.toNatClampNeg 3))), (rd, .inr (3, [.ref ri, .ref rl, .int rz, .int rc, .int q_97, .int q_98, .int rt, .int ru])), (rl, .inl (cI, 160, .inl fl))] H := hP
        replace hD : va_D _ [(ri, .inl (cI, 132, .inl (upd fi slot.toNatClampNeg 3))), (rd, .inr (3, [.ref ri, .ref rl, .int rz, .int rc, .int q_97, .int q_98, .int rt, .int ru])), (rl, .inl (cI, 160, .inl fl))] := hD
        refine lv_aload_n hx hb dX3_readItem_34 rfl (lv_at hl 2 rfl) ?_
        refine va_get (D := D) (ci := 3) (v := .int q_98) (C := RX3) (T := TX3) (N := 8) hx hb hts hi_X3_readItem_3 hown hK hP 1 rfl rfl 5 (by decide) (hts (.fieldLink RX3 28 "TheLiningsInIt$Reader" "fault" "I") (List.mem_of_getElem? (i := 2) rfl)) (fun _ h9 => h9) rfl dX3_readItem_35 ?_
        refine lv_iconst (v := (-1)) hx hb dX3_readItem_38 (by decide) ?_
        refine lv_icmp_ne (tgt := 67) hx hb dX3_readItem_39 (by decide) (fun c_99 => ?_) (fun c_99 => ?_)
        · have fc_99 : q_98.toInt ≠ (-1) := zf_ne c_99 rfl (by decide)
          refine lv_aload_n hx hb dX3_readItem_67 rfl (lv_at hl 2 rfl) ?_
          refine va_get (D := D) (ci := 3) (v := .int q_98) (C := RX3) (T := TX3) (N := 8) hx hb hts hi_X3_readItem_3 hown hK hP 1 rfl rfl 5 (by decide) (hts (.fieldLink RX3 28 "TheLiningsInIt$Reader" "fault" "I") (List.mem_of_getElem? (i := 2) rfl)) (fun _ h9 => h9) rfl dX3_readItem_68 ?_
          refine lv_iconst (v := (-1)) hx hb dX3_readItem_71 (by decide) ?_
          refine lv_icmp_eq (tgt := 76) hx hb dX3_readItem_72 (by decide) (fun c_100 => ?_) (fun c_100 => ?_)
          · exfalso; have fc_100 : q_98.toInt = (-1) := zf_eq c_100 rfl (by decide); omega
          · have fc_100 : q_98.toInt ≠ (-1) := zf_ne c_100 rfl (by decide)
            exact W.vret hx hb hr (fun t ht hW => ⟨⟨(q_97, q_98, rt, ru, (upd fi slot.toNatClampNeg 3)), rfl, ⟨(show 0 ≤ q_97.toInt ∧ q_97.toInt ≤ 160 from hbq_97), (show (-1) ≤ q_98.toInt ∧ q_98.toInt ≤ 160 from hbq_98), (show 0 ≤ rt.toInt ∧ rt.toInt ≤ 40 from ⟨hy9, hy10⟩), (show 0 ≤ ru.toInt ∧ ru.toInt ≤ 8 from ⟨hy11, hy12⟩), (show q_97.toInt ≤ rz.toInt from by omega), (show (q_98.toInt = -1 → zIt (upd fi slot.toNatClampNeg 3) slot.toInt.toNat) from by (intro h; have e0 : slot.toNatClampNeg = slot.toInt.toNat + 0 := (by show (slot : Int32).toInt.toNat = _; omega); have k2 : (3 : Int32).toInt = 3 := (by decide); first | (exfalso; omega) | exact zIt_mk (by simp only [upd]; rw [if_pos (by omega)]) (rfl) (rfl) (rfl) (by unfold zItv; refine ⟨?_, ?_, ?_, ?_, ?_, ?_, ?_, ?_, ?_, ?_, ?_⟩ <;> (intros; omega)))), (show (∀ j : Nat, j < slot.toInt.toNat → (upd fi slot.toNatClampNeg 3) j = fi j) from by (intro j hj; have e0 : slot.toNatClampNeg = slot.toInt.toNat + 0 := (by show (slot : Int32).toInt.toNat = _; omega); simp only [upd]; rw [if_neg (by omega)])), trivial⟩, by rw [ht]; exact hP.sub (ws' := [(rd, .inr (3, [.ref ri, .ref rl, .int rz, .int rc, .int q_97, .int q_98, .int rt, .int ru])), (rl, .inl (cI, 160, .inl fl)), (ri, .inl (cI, 132, .inl (upd fi slot.toNatClampNeg 3)))]) [1, 2, 0] rfl, hD.sub (ws' := [(rd, .inr (3, [.ref ri, .ref rl, .int rz, .int rc, .int q_97, .int q_98, .int rt, .int ru])), (rl, .inl (cI, 160, .inl fl)), (ri, .inl (cI, 132, .inl (upd fi slot.toNatClampNeg 3)))]) [1, 2, 0] (by decide) rfl⟩, hS.F ht⟩) hS.2.2 dX3_readItem_75
        · have fc_99 : q_98.toInt = (-1) := zf_eq c_99 rfl (by decide)
          refine lv_aload_n hx hb dX3_readItem_42 rfl (lv_at hl 2 rfl) ?_
          refine va_get (D := D) (ci := 3) (v := .ref ri) (C := RX3) (T := TX3) (N := 8) hx hb hts hi_X3_readItem_3 hown hK hP 1 rfl rfl 0 (by decide) (hts (.fieldLink RX3 11 "TheLiningsInIt$Reader" "items" "[I") (List.mem_of_getElem? (i := 1) rfl)) (fun _ h9 => h9) rfl dX3_readItem_43 ?_
          refine lv_iload_n hx hb dX3_readItem_46 rfl (lv_at hl 3 rfl) ?_
          refine lv_iconst (v := 1) hx hb dX3_readItem_47 (by decide) ?_
          refine lv_iadd hx hb dX3_readItem_48 ?_
          refine lv_topi (fun x_101 ex_101 => ?_)
          have qx_101 : x_101.toInt = slot.toInt + 1 := by rw [ex_101]; exact zf_add rfl (by decide) (by omega) (by omega)
          refine lv_iload_n hx hb dX3_readItem_49 rfl (lv_at hl 0 rfl) ?_
          refine lv_iadd hx hb dX3_readItem_50 ?_
          refine lv_topi (fun y_102 ey_102 => ?_)
          obtain rfl : x_101 = y_102 := (ey_102.trans (Int32.add_zero x_101)).symm
          refine lv_aload_n hx hb dX3_readItem_51 rfl (lv_at hl 2 rfl) ?_
          refine lv_iload_n hx hb dX3_readItem_52 rfl (lv_at hl 1 rfl) ?_
          refine lv_iload_n hx hb dX3_readItem_53 rfl (lv_at hl 0 rfl) ?_
          refine zc_S (As := [.int 3, .int 0]) (rest := [.ref rd, .int x_101, .ref ri]) ⟨hx, hb, hml, hown, hts⟩ (c_R_leastOf_3_0 l D cI cJ cZ cP cS po  ) (va_cwS 2 hts gX3_readItem_X3_leastOf rfl rfl rfl (by decide +kernel) ⟨Nat.le_of_ble_eq_true rfl, Nat.le_of_ble_eq_true rfl⟩) hK hN (hZ.kept hS) rfl hl.1 rfl (Nat.le_of_ble_eq_true rfl) dX3_readItem_54 ⟨Nat.le_of_ble_eq_true rfl, Nat.le_of_ble_eq_true rfl⟩ (fun r_103 hr_103 => ?_)
          obtain rfl := hr_103
          refine lv_aload_n hx hb dX3_readItem_57 rfl (lv_at hl 2 rfl) ?_
          refine lv_iload_n hx hb dX3_readItem_58 rfl (lv_at hl 1 rfl) ?_
          refine lv_iload_n hx hb dX3_readItem_59 rfl (lv_at hl 0 rfl) ?_
          refine zc_V (As := [.int 3, .int 0]) (rest := [.int 0, .ref rd, .int x_101, .ref ri]) ⟨hx, hb, hml, hown, hts⟩ (c_R_mostOf_3_0 l D cI cJ cZ cP cS po rd ri rl (rz) (rc) (q_97) (q_98) (rt) (ru) hy0 hy1 hy2 hy3 hbq_97.1 hbq_97.2 (by omega) hbq_98.1 hbq_98.2 hy9 hy10 hy11 hy12) (cwV 2 hts gX3_readItem_X3_mostOf rfl rfl rfl (by decide +kernel) ⟨Nat.le_of_ble_eq_true rfl, Nat.le_of_ble_eq_true rfl⟩) hK hN (hZ.kept hS) hP (hP.sub [1] rfl) (va_recv hK hP (ci := 3) (q0 := 1) rfl rfl) rfl hl.1 rfl (Nat.le_of_ble_eq_true rfl) dX3_readItem_60 ⟨Nat.le_of_ble_eq_true rfl, Nat.le_of_ble_eq_true rfl⟩ (fun r_104 hr_104 => ?_)
          obtain rfl := hr_104
          have kc0 : (0 : Int32).toInt = 0 := by decide
          have kc6 : (6 : Int32).toInt = 6 := by decide
          skip
          refine zw_V (As := [.int 0, .int 6]) (rest := [.int x_101, .ref ri]) (wr := [(ri, .inl (cI, 132, .inl (upd fi slot.toNatClampNeg 3)))]) ⟨hx, hb, hml, hown, hts⟩ (c_R_readNumber l D cI cJ cZ cP cS po rd ri rl (rz) (rc) (q_97) (q_98) (rt) (ru) fl (0) (6) hy0 hy1 hy2 hy3 hbq_97.1 hbq_97.2 (by omega) hbq_98.1 hbq_98.2 hy9 hy10 hy11 hy12 H.size) (cwV 2 hts gX3_readItem_X3_readNumber rfl rfl rfl (by decide +kernel) ⟨Nat.le_of_ble_eq_true rfl, Nat.le_of_ble_eq_true rfl⟩) hK hN (hZ.kept hS) hP hD hS hA [1, 2] [0] rfl rfl (by decide) (by decide) (by decide) (va_recv hK hP (ci := 3) (q0 := 1) rfl rfl) rfl hl.1 rfl (Nat.le_of_ble_eq_true rfl) dX3_readItem_63 ⟨Nat.le_of_ble_eq_true rfl, Nat.le_of_ble_eq_true rfl⟩ (fun r_105 u_106 H locs hr_105 hP hD hS => ?_)
          obtain ⟨q_107, q_108⟩ := u_106
          try dsimp only at hr_105
          obtain ⟨hbq_107, hbq_108, hsr_105_0, hsr_105_1, hr_105⟩ := hr_105
          replace hP : va_P D vwCl [(ri, .inl (cI, 132, .inl (upd fi slot.toNatClampNeg 3))), (rd, .inr (3, [.ref ri, .ref rl, .int rz, .int rc, .int q_107, .int q_108, .int rt, .int ru])), (rl, .inl (cI, 160, .inl fl))] H := hP
          replace hD : va_D _ [(ri, .inl (cI, 132, .inl (upd fi slot.toNatClampNeg 3))), (rd, .inr (3, [.ref ri, .ref rl, .int rz, .int rc, .int q_107, .int q_108, .int rt, .int ru])), (rl, .inl (cI, 160, .inl fl))] := hD
          refine va_iast hx hb hK hP hD hS 0 0 rfl rfl (zf_in (by omega) (by omega)) dX3_readItem_66 (fun H locs hP hD hS => ?_)
          replace hP : va_P D vwCl [(ri, .inl (cI, 132, .inl (upd (upd fi slot.toNatClampNeg 3) x_101.toNatClampNeg r_105))), (rd, .inr (3, [.ref ri, .ref rl, .int rz, .int rc, .int q_107, .int q_108, .int rt, .int ru])), (rl, .inl (cI, 160, .inl fl))] H := hP
          replace hD : va_D _ [(ri, .inl (cI, 132, .inl (upd (upd fi slot.toNatClampNeg 3) x_101.toNatClampNeg r_105))), (rd, .inr (3, [.ref ri, .ref rl, .int rz, .int rc, .int q_107, .int q_108, .int rt, .int ru])), (rl, .inl (cI, 160, .inl fl))] := hD
          refine lv_aload_n hx hb dX3_readItem_67 rfl (lv_at hl 2 rfl) ?_
          refine va_get (D := D) (ci := 3) (v := .int q_108) (C := RX3) (T := TX3) (N := 8) hx hb hts hi_X3_readItem_3 hown hK hP 1 rfl rfl 5 (by decide) (hts (.fieldLink RX3 28 "TheLiningsInIt$Reader" "fault" "I") (List.mem_of_getElem? (i := 2) rfl)) (fun _ h9 => h9) rfl dX3_readItem_68 ?_
          refine lv_iconst (v := (-1)) hx hb dX3_readItem_71 (by decide) ?_
          refine lv_icmp_eq (tgt := 76) hx hb dX3_readItem_72 (by decide) (fun c_109 => ?_) (fun c_109 => ?_)
          · have fc_109 : q_108.toInt = (-1) := zf_eq c_109 rfl (by decide)
            refine lv_iinc (v := 1) (lv' := [(3, .int 1), (2, .int 3), (0, .ref rd), (1, .int slot)]) hx hb dX3_readItem_76 hl (k := 0) rfl (by decide) (by decide) rfl (fun ls hl => ?_)
            refine lv_goto (tgt := 20) hx hb dX3_readItem_79 (by decide) ?_
            refine lv_iload_n hx hb dX3_readItem_20 rfl (lv_at hl 0 rfl) ?_
            refine lv_iload_n hx hb dX3_readItem_21 rfl (lv_at hl 1 rfl) ?_
            refine zc_S (As := [.int 3]) (rest := [.int 1]) ⟨hx, hb, hml, hown, hts⟩ (c_R_numbersOf_3 l D cI cJ cZ cP cS po  ) (va_cwS 1 hts gX3_readItem_X3_numbersOf rfl rfl rfl (by decide +kernel) ⟨Nat.le_of_ble_eq_true rfl, Nat.le_of_ble_eq_true rfl⟩) hK hN (hZ.kept hS) rfl hl.1 rfl (Nat.le_of_ble_eq_true rfl) dX3_readItem_22 ⟨Nat.le_of_ble_eq_true rfl, Nat.le_of_ble_eq_true rfl⟩ (fun r_110 hr_110 => ?_)
            obtain rfl := hr_110
            refine lv_icmp_ge (tgt := 82) hx hb dX3_readItem_25 (by decide) (fun c_111 => ?_) (fun c_111 => ?_)
            · exact absurd c_111 (by decide)
            · refine lv_aload_n hx hb dX3_readItem_28 rfl (lv_at hl 2 rfl) ?_
              refine lv_bipush (v := 32) hx hb dX3_readItem_29 (by decide) ?_
              skip
              refine zw_Vv (As := [.int 32]) (rest := []) (wr := [(ri, .inl (cI, 132, .inl (upd (upd fi slot.toNatClampNeg 3) x_101.toNatClampNeg r_105)))]) ⟨hx, hb, hml, hown, hts⟩ (c_R_expect l D cI cJ cZ cP cS po rd ri rl (rz) (rc) (q_107) (q_108) (rt) (ru) fl (32) hy0 hy1 hy2 hy3 hbq_107.1 hbq_107.2 (by omega) hbq_108.1 hbq_108.2 hy9 hy10 hy11 hy12 H.size) (cwV 1 hts gX3_readItem_X3_expect rfl rfl rfl (by decide +kernel) ⟨Nat.le_of_ble_eq_true rfl, Nat.le_of_ble_eq_true rfl⟩) hK hN (hZ.kept hS) hP hD hS hA [1, 2] [0] rfl rfl (by decide) (by decide) (by decide) (va_recv hK hP (ci := 3) (q0 := 1) rfl rfl) rfl hl.1 rfl (Nat.le_of_ble_eq_true rfl) dX3_readItem_31 ⟨Nat.le_of_ble_eq_true rfl, Nat.le_of_ble_eq_true rfl⟩ (fun u_113 H locs hr_112 hP hD hS => ?_)
              obtain ⟨q_114, q_115⟩ := u_113
              try dsimp only at hr_112
              obtain ⟨hbq_114, hbq_115, hsr_112_0, hsr_112_1, hr_112⟩ := hr_112
              replace hP : va_P D vwCl [(ri, .inl (cI, 132, .inl (upd (upd fi slot.toNatClampNeg 3) x_101.toNatClampNeg r_105))), (rd, .inr (3, [.ref ri, .ref rl, .int rz, .int rc, .int q_114, .int q_115, .int rt, .int ru])), (rl, .inl (cI, 160, .inl fl))] H := hP
              replace hD : va_D _ [(ri, .inl (cI, 132, .inl (upd (upd fi slot.toNatClampNeg 3) x_101.toNatClampNeg r_105))), (rd, .inr (3, [.ref ri, .ref rl, .int rz, .int rc, .int q_114, .int q_115, .int rt, .int ru])), (rl, .inl (cI, 160, .inl fl))] := hD
              refine lv_aload_n hx hb dX3_readItem_34 rfl (lv_at hl 2 rfl) ?_
              refine va_get (D := D) (ci := 3) (v := .int q_115) (C := RX3) (T := TX3) (N := 8) hx hb hts hi_X3_readItem_3 hown hK hP 1 rfl rfl 5 (by decide) (hts (.fieldLink RX3 28 "TheLiningsInIt$Reader" "fault" "I") (List.mem_of_getElem? (i := 2) rfl)) (fun _ h9 => h9) rfl dX3_readItem_35 ?_
              refine lv_iconst (v := (-1)) hx hb dX3_readItem_38 (by decide) ?_
              refine lv_icmp_ne (tgt := 67) hx hb dX3_readItem_39 (by decide) (fun c_116 => ?_) (fun c_116 => ?_)
              · have fc_116 : q_115.toInt ≠ (-1) := zf_ne c_116 rfl (by decide)
                refine lv_aload_n hx hb dX3_readItem_67 rfl (lv_at hl 2 rfl) ?_
                refine va_get (D := D) (ci := 3) (v := .int q_115) (C := RX3) (T := TX3) (N := 8) hx hb hts hi_X3_readItem_3 hown hK hP 1 rfl rfl 5 (by decide) (hts (.fieldLink RX3 28 "TheLiningsInIt$Reader" "fault" "I") (List.mem_of_getElem? (i := 2) rfl)) (fun _ h9 => h9) rfl dX3_readItem_68 ?_
                refine lv_iconst (v := (-1)) hx hb dX3_readItem_71 (by decide) ?_
                refine lv_icmp_eq (tgt := 76) hx hb dX3_readItem_72 (by decide) (fun c_117 => ?_) (fun c_117 => ?_)
                · exfalso; have fc_117 : q_115.toInt = (-1) := zf_eq c_117 rfl (by decide); omega
                · have fc_117 : q_115.toInt ≠ (-1) := zf_ne c_117 rfl (by decide)
                  exact W.vret hx hb hr (fun t ht hW => ⟨⟨(q_114, q_115, rt, ru, (upd (upd fi slot.toNatClampNeg 3) x_101.toNatClampNeg r_105)), rfl, ⟨(show 0 ≤ q_114.toInt ∧ q_114.toInt ≤ 160 from hbq_114), (show (-1) ≤ q_115.toInt ∧ q_115.toInt ≤ 160 from hbq_115), (show 0 ≤ rt.toInt ∧ rt.toInt ≤ 40 from ⟨hy9, hy10⟩), (show 0 ≤ ru.toInt ∧ ru.toInt ≤ 8 from ⟨hy11, hy12⟩), (show q_114.toInt ≤ rz.toInt from by omega), (show (q_115.toInt = -1 → zIt (upd (upd fi slot.toNatClampNeg 3) x_101.toNatClampNeg r_105) slot.toInt.toNat) from by (intro h; have e0 : slot.toNatClampNeg = slot.toInt.toNat + 0 := (by show (slot : Int32).toInt.toNat = _; omega); have e1 : x_101.toNatClampNeg = slot.toInt.toNat + 1 := (by show (x_101 : Int32).toInt.toNat = _; omega); have k3 : (3 : Int32).toInt = 3 := (by decide); first | (exfalso; omega) | exact zIt_mk (by simp only [upd]; rw [if_neg (by omega), if_pos (by omega)]) (by simp only [upd]; rw [if_pos (by omega)]) (rfl) (rfl) (by unfold zItv; refine ⟨?_, ?_, ?_, ?_, ?_, ?_, ?_, ?_, ?_, ?_, ?_⟩ <;> (intros; omega)))), (show (∀ j : Nat, j < slot.toInt.toNat → (upd (upd fi slot.toNatClampNeg 3) x_101.toNatClampNeg r_105) j = fi j) from by (intro j hj; have e0 : slot.toNatClampNeg = slot.toInt.toNat + 0 := (by show (slot : Int32).toInt.toNat = _; omega); have e1 : x_101.toNatClampNeg = slot.toInt.toNat + 1 := (by show (x_101 : Int32).toInt.toNat = _; omega); simp only [upd]; rw [if_neg (by omega), if_neg (by omega)])), trivial⟩, by rw [ht]; exact hP.sub (ws' := [(rd, .inr (3, [.ref ri, .ref rl, .int rz, .int rc, .int q_114, .int q_115, .int rt, .int ru])), (rl, .inl (cI, 160, .inl fl)), (ri, .inl (cI, 132, .inl (upd (upd fi slot.toNatClampNeg 3) x_101.toNatClampNeg r_105)))]) [1, 2, 0] rfl, hD.sub (ws' := [(rd, .inr (3, [.ref ri, .ref rl, .int rz, .int rc, .int q_114, .int q_115, .int rt, .int ru])), (rl, .inl (cI, 160, .inl fl)), (ri, .inl (cI, 132, .inl (upd (upd fi slot.toNatClampNeg 3) x_101.toNatClampNeg r_105)))]) [1, 2, 0] (by decide) rfl⟩, hS.F ht⟩) hS.2.2 dX3_readItem_75
              · have fc_116 : q_115.toInt = (-1) := zf_eq c_116 rfl (by decide)
                refine lv_aload_n hx hb dX3_readItem_42 rfl (lv_at hl 2 rfl) ?_
                refine va_get (D := D) (ci := 3) (v := .ref ri) (C := RX3) (T := TX3) (N := 8) hx hb hts hi_X3_readItem_3 hown hK hP 1 rfl rfl 0 (by decide) (hts (.fieldLink RX3 11 "TheLiningsInIt$Reader" "items" "[I") (List.mem_of_getElem? (i := 1) rfl)) (fun _ h9 => h9) rfl dX3_readItem_43 ?_
                refine lv_iload_n hx hb dX3_readItem_46 rfl (lv_at hl 3 rfl) ?_
                refine lv_iconst (v := 1) hx hb dX3_readItem_47 (by decide) ?_
                refine lv_iadd hx hb dX3_readItem_48 ?_
                refine lv_topi (fun y_118 ey_118 => ?_)
                obtain rfl : x_101 = y_118 := ex_101.trans ey_118.symm
                refine lv_iload_n hx hb dX3_readItem_49 rfl (lv_at hl 0 rfl) ?_
                refine lv_iadd hx hb dX3_readItem_50 ?_
                refine lv_topi (fun x_119 ex_119 => ?_)
                have qx_119 : x_119.toInt = x_101.toInt + 1 := by rw [ex_119]; exact zf_add rfl (by decide) (by omega) (by omega)
                refine lv_aload_n hx hb dX3_readItem_51 rfl (lv_at hl 2 rfl) ?_
                refine lv_iload_n hx hb dX3_readItem_52 rfl (lv_at hl 1 rfl) ?_
                refine lv_iload_n hx hb dX3_readItem_53 rfl (lv_at hl 0 rfl) ?_
                refine zc_S (As := [.int 3, .int 1]) (rest := [.ref rd, .int x_119, .ref ri]) ⟨hx, hb, hml, hown, hts⟩ (c_R_leastOf_3_1 l D cI cJ cZ cP cS po  ) (va_cwS 2 hts gX3_readItem_X3_leastOf rfl rfl rfl (by decide +kernel) ⟨Nat.le_of_ble_eq_true rfl, Nat.le_of_ble_eq_true rfl⟩) hK hN (hZ.kept hS) rfl hl.1 rfl (Nat.le_of_ble_eq_true rfl) dX3_readItem_54 ⟨Nat.le_of_ble_eq_true rfl, Nat.le_of_ble_eq_true rfl⟩ (fun r_120 hr_120 => ?_)
                obtain rfl := hr_120
                refine lv_aload_n hx hb dX3_readItem_57 rfl (lv_at hl 2 rfl) ?_
                refine lv_iload_n hx hb dX3_readItem_58 rfl (lv_at hl 1 rfl) ?_
                refine lv_iload_n hx hb dX3_readItem_59 rfl (lv_at hl 0 rfl) ?_
                refine zc_V (As := [.int 3, .int 1]) (rest := [.int 0, .ref rd, .int x_119, .ref ri]) ⟨hx, hb, hml, hown, hts⟩ (c_R_mostOf_3_1 l D cI cJ cZ cP cS po rd ri rl (rz) (rc) (q_114) (q_115) (rt) (ru) hy0 hy1 hy2 hy3 hbq_114.1 hbq_114.2 (by omega) hbq_115.1 hbq_115.2 hy9 hy10 hy11 hy12) (cwV 2 hts gX3_readItem_X3_mostOf rfl rfl rfl (by decide +kernel) ⟨Nat.le_of_ble_eq_true rfl, Nat.le_of_ble_eq_true rfl⟩) hK hN (hZ.kept hS) hP (hP.sub [1] rfl) (va_recv hK hP (ci := 3) (q0 := 1) rfl rfl) rfl hl.1 rfl (Nat.le_of_ble_eq_true rfl) dX3_readItem_60 ⟨Nat.le_of_ble_eq_true rfl, Nat.le_of_ble_eq_true rfl⟩ (fun r_121 hr_121 => ?_)
                obtain rfl := hr_121
                have kc9 : (9 : Int32).toInt = 9 := by decide
                skip
                refine zw_V (As := [.int 0, .int 9]) (rest := [.int x_119, .ref ri]) (wr := [(ri, .inl (cI, 132, .inl (upd (upd fi slot.toNatClampNeg 3) x_101.toNatClampNeg r_105)))]) ⟨hx, hb, hml, hown, hts⟩ (c_R_readNumber l D cI cJ cZ cP cS po rd ri rl (rz) (rc) (q_114) (q_115) (rt) (ru) fl (0) (9) hy0 hy1 hy2 hy3 hbq_114.1 hbq_114.2 (by omega) hbq_115.1 hbq_115.2 hy9 hy10 hy11 hy12 H.size) (cwV 2 hts gX3_readItem_X3_readNumber rfl rfl rfl (by decide +kernel) ⟨Nat.le_of_ble_eq_true rfl, Nat.le_of_ble_eq_true rfl⟩) hK hN (hZ.kept hS) hP hD hS hA [1, 2] [0] rfl rfl (by decide) (by decide) (by decide) (va_recv hK hP (ci := 3) (q0 := 1) rfl rfl) rfl hl.1 rfl (Nat.le_of_ble_eq_true rfl) dX3_readItem_63 ⟨Nat.le_of_ble_eq_true rfl, Nat.le_of_ble_eq_true rfl⟩ (fun r_122 u_123 H locs hr_122 hP hD hS => ?_)
                obtain ⟨q_124, q_125⟩ := u_123
                try dsimp only at hr_122
                obtain ⟨hbq_124, hbq_125, hsr_122_0, hsr_122_1, hr_122⟩ := hr_122
                replace hP : va_P D vwCl [(ri, .inl (cI, 132, .inl (upd (upd fi slot.toNatClampNeg 3) x_101.toNatClampNeg r_105))), (rd, .inr (3, [.ref ri, .ref rl, .int rz, .int rc, .int q_124, .int q_125, .int rt, .int ru])), (rl, .inl (cI, 160, .inl fl))] H := hP
                replace hD : va_D _ [(ri, .inl (cI, 132, .inl (upd (upd fi slot.toNatClampNeg 3) x_101.toNatClampNeg r_105))), (rd, .inr (3, [.ref ri, .ref rl, .int rz, .int rc, .int q_124, .int q_125, .int rt, .int ru])), (rl, .inl (cI, 160, .inl fl))] := hD
                refine va_iast hx hb hK hP hD hS 0 0 rfl rfl (zf_in (by omega) (by omega)) dX3_readItem_66 (fun H locs hP hD hS => ?_)
                replace hP : va_P D vwCl [(ri, .inl (cI, 132, .inl (upd (upd (upd fi slot.toNatClampNeg 3) x_101.toNatClampNeg r_105) x_119.toNatClampNeg r_122))), (rd, .inr (3, [.ref ri, .ref rl, .int rz, .int rc, .int q_124, .int q_125, .int rt, .int ru])), (rl, .inl (cI, 160, .inl fl))] H := hP
                replace hD : va_D _ [(ri, .inl (cI, 132, .inl (upd (upd (upd fi slot.toNatClampNeg 3) x_101.toNatClampNeg r_105) x_119.toNatClampNeg r_122))), (rd, .inr (3, [.ref ri, .ref rl, .int rz, .int rc, .int q_124, .int q_125, .int rt, .int ru])), (rl, .inl (cI, 160, .inl fl))] := hD
                refine lv_aload_n hx hb dX3_readItem_67 rfl (lv_at hl 2 rfl) ?_
                refine va_get (D := D) (ci := 3) (v := .int q_125) (C := RX3) (T := TX3) (N := 8) hx hb hts hi_X3_readItem_3 hown hK hP 1 rfl rfl 5 (by decide) (hts (.fieldLink RX3 28 "TheLiningsInIt$Reader" "fault" "I") (List.mem_of_getElem? (i := 2) rfl)) (fun _ h9 => h9) rfl dX3_readItem_68 ?_
                refine lv_iconst (v := (-1)) hx hb dX3_readItem_71 (by decide) ?_
                refine lv_icmp_eq (tgt := 76) hx hb dX3_readItem_72 (by decide) (fun c_126 => ?_) (fun c_126 => ?_)
                · have fc_126 : q_125.toInt = (-1) := zf_eq c_126 rfl (by decide)
                  refine lv_iinc (v := 2) (lv' := [(3, .int 2), (2, .int 3), (0, .ref rd), (1, .int slot)]) hx hb dX3_readItem_76 hl (k := 0) rfl (by decide) (by decide) rfl (fun ls hl => ?_)
                  refine lv_goto (tgt := 20) hx hb dX3_readItem_79 (by decide) ?_
                  refine lv_iload_n hx hb dX3_readItem_20 rfl (lv_at hl 0 rfl) ?_
                  refine lv_iload_n hx hb dX3_readItem_21 rfl (lv_at hl 1 rfl) ?_
                  refine zc_S (As := [.int 3]) (rest := [.int 2]) ⟨hx, hb, hml, hown, hts⟩ (c_R_numbersOf_3 l D cI cJ cZ cP cS po  ) (va_cwS 1 hts gX3_readItem_X3_numbersOf rfl rfl rfl (by decide +kernel) ⟨Nat.le_of_ble_eq_true rfl, Nat.le_of_ble_eq_true rfl⟩) hK hN (hZ.kept hS) rfl hl.1 rfl (Nat.le_of_ble_eq_true rfl) dX3_readItem_22 ⟨Nat.le_of_ble_eq_true rfl, Nat.le_of_ble_eq_true rfl⟩ (fun r_127 hr_127 => ?_)
                  obtain rfl := hr_127
                  refine lv_icmp_ge (tgt := 82) hx hb dX3_readItem_25 (by decide) (fun c_128 => ?_) (fun c_128 => ?_)
                  · exact absurd c_128 (by decide)
                  · refine lv_aload_n hx hb dX3_readItem_28 rfl (lv_at hl 2 rfl) ?_
                    refine lv_bipush (v := 32) hx hb dX3_readItem_29 (by decide) ?_
                    skip
                    refine zw_Vv (As := [.int 32]) (rest := []) (wr := [(ri, .inl (cI, 132, .inl (upd (upd (upd fi slot.toNatClampNeg 3) x_101.toNatClampNeg r_105) x_119.toNatClampNeg r_122)))]) ⟨hx, hb, hml, hown, hts⟩ (c_R_expect l D cI cJ cZ cP cS po rd ri rl (rz) (rc) (q_124) (q_125) (rt) (ru) fl (32) hy0 hy1 hy2 hy3 hbq_124.1 hbq_124.2 (by omega) hbq_125.1 hbq_125.2 hy9 hy10 hy11 hy12 H.size) (cwV 1 hts gX3_readItem_X3_expect rfl rfl rfl (by decide +kernel) ⟨Nat.le_of_ble_eq_true rfl, Nat.le_of_ble_eq_true rfl⟩) hK hN (hZ.kept hS) hP hD hS hA [1, 2] [0] rfl rfl (by decide) (by decide) (by decide) (va_recv hK hP (ci := 3) (q0 := 1) rfl rfl) rfl hl.1 rfl (Nat.le_of_ble_eq_true rfl) dX3_readItem_31 ⟨Nat.le_of_ble_eq_true rfl, Nat.le_of_ble_eq_true rfl⟩ (fun u_130 H locs hr_129 hP hD hS => ?_)
                    obtain ⟨q_131, q_132⟩ := u_130
                    try dsimp only at hr_129
                    obtain ⟨hbq_131, hbq_132, hsr_129_0, hsr_129_1, hr_129⟩ := hr_129
                    replace hP : va_P D vwCl [(ri, .inl (cI, 132, .inl (upd (upd (upd fi slot.toNatClampNeg 3) x_101.toNatClampNeg r_105) x_119.toNatClampNeg r_122))), (rd, .inr (3, [.ref ri, .ref rl, .int rz, .int rc, .int q_131, .int q_132, .int rt, .int ru])), (rl, .inl (cI, 160, .inl fl))] H := hP
                    replace hD : va_D _ [(ri, .inl (cI, 132, .inl (upd (upd (upd fi slot.toNatClampNeg 3) x_101.toNatClampNeg r_105) x_119.toNatClampNeg r_122))), (rd, .inr (3, [.ref ri, .ref rl, .int rz, .int rc, .int q_131, .int q_132, .int rt, .int ru])), (rl, .inl (cI, 160, .inl fl))] := hD
                    refine lv_aload_n hx hb dX3_readItem_34 rfl (lv_at hl 2 rfl) ?_
                    refine va_get (D := D) (ci := 3) (v := .int q_132) (C := RX3) (T := TX3) (N := 8) hx hb hts hi_X3_readItem_3 hown hK hP 1 rfl rfl 5 (by decide) (hts (.fieldLink RX3 28 "TheLiningsInIt$Reader" "fault" "I") (List.mem_of_getElem? (i := 2) rfl)) (fun _ h9 => h9) rfl dX3_readItem_35 ?_
                    refine lv_iconst (v := (-1)) hx hb dX3_readItem_38 (by decide) ?_
                    refine lv_icmp_ne (tgt := 67) hx hb dX3_readItem_39 (by decide) (fun c_133 => ?_) (fun c_133 => ?_)
                    · have fc_133 : q_132.toInt ≠ (-1) := zf_ne c_133 rfl (by decide)
                      refine lv_aload_n hx hb dX3_readItem_67 rfl (lv_at hl 2 rfl) ?_
                      refine va_get (D := D) (ci := 3) (v := .int q_132) (C := RX3) (T := TX3) (N := 8) hx hb hts hi_X3_readItem_3 hown hK hP 1 rfl rfl 5 (by decide) (hts (.fieldLink RX3 28 "TheLiningsInIt$Reader" "fault" "I") (List.mem_of_getElem? (i := 2) rfl)) (fun _ h9 => h9) rfl dX3_readItem_68 ?_
                      refine lv_iconst (v := (-1)) hx hb dX3_readItem_71 (by decide) ?_
                      refine lv_icmp_eq (tgt := 76) hx hb dX3_readItem_72 (by decide) (fun c_134 => ?_) (fun c_134 => ?_)
                      · exfalso; have fc_134 : q_132.toInt = (-1) := zf_eq c_134 rfl (by decide); omega
                      · have fc_134 : q_132.toInt ≠ (-1) := zf_ne c_134 rfl (by decide)
                        exact W.vret hx hb hr (fun t ht hW => ⟨⟨(q_131, q_132, rt, ru, (upd (upd (upd fi slot.toNatClampNeg 3) x_101.toNatClampNeg r_105) x_119.toNatClampNeg r_122)), rfl, ⟨(show 0 ≤ q_131.toInt ∧ q_131.toInt ≤ 160 from hbq_131), (show (-1) ≤ q_132.toInt ∧ q_132.toInt ≤ 160 from hbq_132), (show 0 ≤ rt.toInt ∧ rt.toInt ≤ 40 from ⟨hy9, hy10⟩), (show 0 ≤ ru.toInt ∧ ru.toInt ≤ 8 from ⟨hy11, hy12⟩), (show q_131.toInt ≤ rz.toInt from by omega), (show (q_132.toInt = -1 → zIt (upd (upd (upd fi slot.toNatClampNeg 3) x_101.toNatClampNeg r_105) x_119.toNatClampNeg r_122) slot.toInt.toNat) from by (intro h; have e0 : slot.toNatClampNeg = slot.toInt.toNat + 0 := (by show (slot : Int32).toInt.toNat = _; omega); have e1 : x_101.toNatClampNeg = slot.toInt.toNat + 1 := (by show (x_101 : Int32).toInt.toNat = _; omega); have e2 : x_119.toNatClampNeg = slot.toInt.toNat + 2 := (by show (x_119 : Int32).toInt.toNat = _; omega); have k4 : (3 : Int32).toInt = 3 := (by decide); first | (exfalso; omega) | exact zIt_mk (by simp only [upd]; rw [if_neg (by omega), if_neg (by omega), if_pos (by omega)]) (by simp only [upd]; rw [if_neg (by omega), if_pos (by omega)]) (by simp only [upd]; rw [if_pos (by omega)]) (rfl) (by unfold zItv; refine ⟨?_, ?_, ?_, ?_, ?_, ?_, ?_, ?_, ?_, ?_, ?_⟩ <;> (intros; omega)))), (show (∀ j : Nat, j < slot.toInt.toNat → (upd (upd (upd fi slot.toNatClampNeg 3) x_101.toNatClampNeg r_105) x_119.toNatClampNeg r_122) j = fi j) from by (intro j hj; have e0 : slot.toNatClampNeg = slot.toInt.toNat + 0 := (by show (slot : Int32).toInt.toNat = _; omega); have e1 : x_101.toNatClampNeg = slot.toInt.toNat + 1 := (by show (x_101 : Int32).toInt.toNat = _; omega); have e2 : x_119.toNatClampNeg = slot.toInt.toNat + 2 := (by show (x_119 : Int32).toInt.toNat = _; omega); simp only [upd]; rw [if_neg (by omega), if_neg (by omega), if_neg (by omega)])), trivial⟩, by rw [ht]; exact hP.sub (ws' := [(rd, .inr (3, [.ref ri, .ref rl, .int rz, .int rc, .int q_131, .int q_132, .int rt, .int ru])), (rl, .inl (cI, 160, .inl fl)), (ri, .inl (cI, 132, .inl (upd (upd (upd fi slot.toNatClampNeg 3) x_101.toNatClampNeg r_105) x_119.toNatClampNeg r_122)))]) [1, 2, 0] rfl, hD.sub (ws' := [(rd, .inr (3, [.ref ri, .ref rl, .int rz, .int rc, .int q_131, .int q_132, .int rt, .int ru])), (rl, .inl (cI, 160, .inl fl)), (ri, .inl (cI, 132, .inl (upd (upd (upd fi slot.toNatClampNeg 3) x_101.toNatClampNeg r_105) x_119.toNatClampNeg r_122)))]) [1, 2, 0] (by decide) rfl⟩, hS.F ht⟩) hS.2.2 dX3_readItem_75
                    · have fc_133 : q_132.toInt = (-1) := zf_eq c_133 rfl (by decide)
                      refine lv_aload_n hx hb dX3_readItem_42 rfl (lv_at hl 2 rfl) ?_
                      refine va_get (D := D) (ci := 3) (v := .ref ri) (C := RX3) (T := TX3) (N := 8) hx hb hts hi_X3_readItem_3 hown hK hP 1 rfl rfl 0 (by decide) (hts (.fieldLink RX3 11 "TheLiningsInIt$Reader" "items" "[I") (List.mem_of_getElem? (i := 1) rfl)) (fun _ h9 => h9) rfl dX3_readItem_43 ?_
                      refine lv_iload_n hx hb dX3_readItem_46 rfl (lv_at hl 3 rfl) ?_
                      refine lv_iconst (v := 1) hx hb dX3_readItem_47 (by decide) ?_
                      refine lv_iadd hx hb dX3_readItem_48 ?_
                      refine lv_topi (fun y_135 ey_135 => ?_)
                      obtain rfl : x_101 = y_135 := ex_101.trans ey_135.symm
                      refine lv_iload_n hx hb dX3_readItem_49 rfl (lv_at hl 0 rfl) ?_
                      refine lv_iadd hx hb dX3_readItem_50 ?_
                      refine lv_topi (fun x_136 ex_136 => ?_)
                      have qx_136 : x_136.toInt = x_101.toInt + 2 := by rw [ex_136]; exact zf_add rfl (by decide) (by omega) (by omega)
                      refine lv_aload_n hx hb dX3_readItem_51 rfl (lv_at hl 2 rfl) ?_
                      refine lv_iload_n hx hb dX3_readItem_52 rfl (lv_at hl 1 rfl) ?_
                      refine lv_iload_n hx hb dX3_readItem_53 rfl (lv_at hl 0 rfl) ?_
                      refine zc_S (As := [.int 3, .int 2]) (rest := [.ref rd, .int x_136, .ref ri]) ⟨hx, hb, hml, hown, hts⟩ (c_R_leastOf_3_2 l D cI cJ cZ cP cS po  ) (va_cwS 2 hts gX3_readItem_X3_leastOf rfl rfl rfl (by decide +kernel) ⟨Nat.le_of_ble_eq_true rfl, Nat.le_of_ble_eq_true rfl⟩) hK hN (hZ.kept hS) rfl hl.1 rfl (Nat.le_of_ble_eq_true rfl) dX3_readItem_54 ⟨Nat.le_of_ble_eq_true rfl, Nat.le_of_ble_eq_true rfl⟩ (fun r_137 hr_137 => ?_)
                      obtain rfl := hr_137
                      refine lv_aload_n hx hb dX3_readItem_57 rfl (lv_at hl 2 rfl) ?_
                      refine lv_iload_n hx hb dX3_readItem_58 rfl (lv_at hl 1 rfl) ?_
                      refine lv_iload_n hx hb dX3_readItem_59 rfl (lv_at hl 0 rfl) ?_
                      refine zc_V (As := [.int 3, .int 2]) (rest := [.int 1, .ref rd, .int x_136, .ref ri]) ⟨hx, hb, hml, hown, hts⟩ (c_R_mostOf_3_2 l D cI cJ cZ cP cS po rd ri rl (rz) (rc) (q_131) (q_132) (rt) (ru) hy0 hy1 hy2 hy3 hbq_131.1 hbq_131.2 (by omega) hbq_132.1 hbq_132.2 hy9 hy10 hy11 hy12) (cwV 2 hts gX3_readItem_X3_mostOf rfl rfl rfl (by decide +kernel) ⟨Nat.le_of_ble_eq_true rfl, Nat.le_of_ble_eq_true rfl⟩) hK hN (hZ.kept hS) hP (hP.sub [1] rfl) (va_recv hK hP (ci := 3) (q0 := 1) rfl rfl) rfl hl.1 rfl (Nat.le_of_ble_eq_true rfl) dX3_readItem_60 ⟨Nat.le_of_ble_eq_true rfl, Nat.le_of_ble_eq_true rfl⟩ (fun r_138 hr_138 => ?_)
                      obtain rfl := hr_138
                      have kc1 : (1 : Int32).toInt = 1 := by decide
                      have kc60 : (60 : Int32).toInt = 60 := by decide
                      skip
                      refine zw_V (As := [.int 1, .int 60]) (rest := [.int x_136, .ref ri]) (wr := [(ri, .inl (cI, 132, .inl (upd (upd (upd fi slot.toNatClampNeg 3) x_101.toNatClampNeg r_105) x_119.toNatClampNeg r_122)))]) ⟨hx, hb, hml, hown, hts⟩ (c_R_readNumber l D cI cJ cZ cP cS po rd ri rl (rz) (rc) (q_131) (q_132) (rt) (ru) fl (1) (60) hy0 hy1 hy2 hy3 hbq_131.1 hbq_131.2 (by omega) hbq_132.1 hbq_132.2 hy9 hy10 hy11 hy12 H.size) (cwV 2 hts gX3_readItem_X3_readNumber rfl rfl rfl (by decide +kernel) ⟨Nat.le_of_ble_eq_true rfl, Nat.le_of_ble_eq_true rfl⟩) hK hN (hZ.kept hS) hP hD hS hA [1, 2] [0] rfl rfl (by decide) (by decide) (by decide) (va_recv hK hP (ci := 3) (q0 := 1) rfl rfl) rfl hl.1 rfl (Nat.le_of_ble_eq_true rfl) dX3_readItem_63 ⟨Nat.le_of_ble_eq_true rfl, Nat.le_of_ble_eq_true rfl⟩ (fun r_139 u_140 H locs hr_139 hP hD hS => ?_)
                      obtain ⟨q_141, q_142⟩ := u_140
                      try dsimp only at hr_139
                      obtain ⟨hbq_141, hbq_142, hsr_139_0, hsr_139_1, hr_139⟩ := hr_139
                      replace hP : va_P D vwCl [(ri, .inl (cI, 132, .inl (upd (upd (upd fi slot.toNatClampNeg 3) x_101.toNatClampNeg r_105) x_119.toNatClampNeg r_122))), (rd, .inr (3, [.ref ri, .ref rl, .int rz, .int rc, .int q_141, .int q_142, .int rt, .int ru])), (rl, .inl (cI, 160, .inl fl))] H := hP
                      replace hD : va_D _ [(ri, .inl (cI, 132, .inl (upd (upd (upd fi slot.toNatClampNeg 3) x_101.toNatClampNeg r_105) x_119.toNatClampNeg r_122))), (rd, .inr (3, [.ref ri, .ref rl, .int rz, .int rc, .int q_141, .int q_142, .int rt, .int ru])), (rl, .inl (cI, 160, .inl fl))] := hD
                      refine va_iast hx hb hK hP hD hS 0 0 rfl rfl (zf_in (by omega) (by omega)) dX3_readItem_66 (fun H locs hP hD hS => ?_)
                      replace hP : va_P D vwCl [(ri, .inl (cI, 132, .inl (upd (upd (upd (upd fi slot.toNatClampNeg 3) x_101.toNatClampNeg r_105) x_119.toNatClampNeg r_122) x_136.toNatClampNeg r_139))), (rd, .inr (3, [.ref ri, .ref rl, .int rz, .int rc, .int q_141, .int q_142, .int rt, .int ru])), (rl, .inl (cI, 160, .inl fl))] H := hP
                      replace hD : va_D _ [(ri, .inl (cI, 132, .inl (upd (upd (upd (upd fi slot.toNatClampNeg 3) x_101.toNatClampNeg r_105) x_119.toNatClampNeg r_122) x_136.toNatClampNeg r_139))), (rd, .inr (3, [.ref ri, .ref rl, .int rz, .int rc, .int q_141, .int q_142, .int rt, .int ru])), (rl, .inl (cI, 160, .inl fl))] := hD
                      refine lv_aload_n hx hb dX3_readItem_67 rfl (lv_at hl 2 rfl) ?_
                      refine va_get (D := D) (ci := 3) (v := .int q_142) (C := RX3) (T := TX3) (N := 8) hx hb hts hi_X3_readItem_3 hown hK hP 1 rfl rfl 5 (by decide) (hts (.fieldLink RX3 28 "TheLiningsInIt$Reader" "fault" "I") (List.mem_of_getElem? (i := 2) rfl)) (fun _ h9 => h9) rfl dX3_readItem_68 ?_
                      refine lv_iconst (v := (-1)) hx hb dX3_readItem_71 (by decide) ?_
                      refine lv_icmp_eq (tgt := 76) hx hb dX3_readItem_72 (by decide) (fun c_143 => ?_) (fun c_143 => ?_)
                      · have fc_143 : q_142.toInt = (-1) := zf_eq c_143 rfl (by decide)
                        refine lv_iinc (v := 3) (lv' := [(3, .int 3), (2, .int 3), (0, .ref rd), (1, .int slot)]) hx hb dX3_readItem_76 hl (k := 0) rfl (by decide) (by decide) rfl (fun ls hl => ?_)
                        refine lv_goto (tgt := 20) hx hb dX3_readItem_79 (by decide) ?_
                        refine lv_iload_n hx hb dX3_readItem_20 rfl (lv_at hl 0 rfl) ?_
                        refine lv_iload_n hx hb dX3_readItem_21 rfl (lv_at hl 1 rfl) ?_
                        refine zc_S (As := [.int 3]) (rest := [.int 3]) ⟨hx, hb, hml, hown, hts⟩ (c_R_numbersOf_3 l D cI cJ cZ cP cS po  ) (va_cwS 1 hts gX3_readItem_X3_numbersOf rfl rfl rfl (by decide +kernel) ⟨Nat.le_of_ble_eq_true rfl, Nat.le_of_ble_eq_true rfl⟩) hK hN (hZ.kept hS) rfl hl.1 rfl (Nat.le_of_ble_eq_true rfl) dX3_readItem_22 ⟨Nat.le_of_ble_eq_true rfl, Nat.le_of_ble_eq_true rfl⟩ (fun r_144 hr_144 => ?_)
                        obtain rfl := hr_144
                        refine lv_icmp_ge (tgt := 82) hx hb dX3_readItem_25 (by decide) (fun c_145 => ?_) (fun c_145 => ?_)
                        · refine lv_iload_n hx hb dX3_readItem_82 rfl (lv_at hl 1 rfl) ?_
                          refine lv_if_ne (tgt := 101) hx hb dX3_readItem_83 (by decide) (fun c_146 => ?_) (fun c_146 => ?_)
                          · refine lv_iload_n hx hb dX3_readItem_101 rfl (lv_at hl 1 rfl) ?_
                            refine lv_iconst (v := 3) hx hb dX3_readItem_102 (by decide) ?_
                            refine lv_icmp_ne (tgt := 116) hx hb dX3_readItem_103 (by decide) (fun c_147 => ?_) (fun c_147 => ?_)
                            · exact absurd c_147 (by decide)
                            · refine lv_aload_n hx hb dX3_readItem_106 rfl (lv_at hl 2 rfl) ?_
                              refine lv_dup hx hb dX3_readItem_107 rfl ?_
                              refine va_get (D := D) (ci := 3) (v := .int ru) (C := RX3) (T := TX3) (N := 8) hx hb hts hi_X3_readItem_3 hown hK hP 1 rfl rfl 7 (by decide) (hts (.fieldLink RX3 34 "TheLiningsInIt$Reader" "pulls" "I") (List.mem_of_getElem? (i := 4) rfl)) (fun _ h9 => h9) rfl dX3_readItem_108 ?_
                              refine lv_iconst (v := 1) hx hb dX3_readItem_111 (by decide) ?_
                              refine lv_iadd hx hb dX3_readItem_112 ?_
                              refine lv_topi (fun x_148 ex_148 => ?_)
                              have qx_148 : x_148.toInt = ru.toInt + 1 := by rw [ex_148]; exact zf_add rfl (by decide) (by omega) (by omega)
                              refine va_put (D := D) (ci := 3) (v := .int x_148) (ty := .int) (C := RX3) (T := TX3) (N := 8) hx hb hts hi_X3_readItem_3 tyX3 tyX3_ok nmX3 hown hK hP hD hS 1 rfl rfl 7 (by decide) (hts (.fieldLink RX3 34 "TheLiningsInIt$Reader" "pulls" "I") (List.mem_of_getElem? (i := 4) rfl)) (fun _ h9 => h9) rfl (by decide +kernel) rfl rfl (Nat.le_of_ble_eq_true rfl) dX3_readItem_113 (fun H locs hP hD hS => ?_)
                              replace hP : va_P D vwCl [(ri, .inl (cI, 132, .inl (upd (upd (upd (upd fi slot.toNatClampNeg 3) x_101.toNatClampNeg r_105) x_119.toNatClampNeg r_122) x_136.toNatClampNeg r_139))), (rd, .inr (3, [.ref ri, .ref rl, .int rz, .int rc, .int q_141, .int q_142, .int rt, .int x_148])), (rl, .inl (cI, 160, .inl fl))] H := hP
                              replace hD : va_D _ [(ri, .inl (cI, 132, .inl (upd (upd (upd (upd fi slot.toNatClampNeg 3) x_101.toNatClampNeg r_105) x_119.toNatClampNeg r_122) x_136.toNatClampNeg r_139))), (rd, .inr (3, [.ref ri, .ref rl, .int rz, .int rc, .int q_141, .int q_142, .int rt, .int x_148])), (rl, .inl (cI, 160, .inl fl))] := hD
                              exact W.vret hx hb hr (fun t ht hW => ⟨⟨(q_141, q_142, rt, x_148, (upd (upd (upd (upd fi slot.toNatClampNeg 3) x_101.toNatClampNeg r_105) x_119.toNatClampNeg r_122) x_136.toNatClampNeg r_139)), rfl, ⟨(show 0 ≤ q_141.toInt ∧ q_141.toInt ≤ 160 from hbq_141), (show (-1) ≤ q_142.toInt ∧ q_142.toInt ≤ 160 from hbq_142), (show 0 ≤ rt.toInt ∧ rt.toInt ≤ 40 from ⟨hy9, hy10⟩), (show 0 ≤ x_148.toInt ∧ x_148.toInt ≤ 8 from ⟨by omega, by omega⟩), (show q_141.toInt ≤ rz.toInt from by omega), (show (q_142.toInt = -1 → zIt (upd (upd (upd (upd fi slot.toNatClampNeg 3) x_101.toNatClampNeg r_105) x_119.toNatClampNeg r_122) x_136.toNatClampNeg r_139) slot.toInt.toNat) from by (intro h; have e0 : slot.toNatClampNeg = slot.toInt.toNat + 0 := (by show (slot : Int32).toInt.toNat = _; omega); have e1 : x_101.toNatClampNeg = slot.toInt.toNat + 1 := (by show (x_101 : Int32).toInt.toNat = _; omega); have e2 : x_119.toNatClampNeg = slot.toInt.toNat + 2 := (by show (x_119 : Int32).toInt.toNat = _; omega); have e3 : x_136.toNatClampNeg = slot.toInt.toNat + 3 := (by show (x_136 : Int32).toInt.toNat = _; omega); have k5 : (3 : Int32).toInt = 3 := (by decide); first | (exfalso; omega) | exact zIt_mk (by simp only [upd]; rw [if_neg (by omega), if_neg (by omega), if_neg (by omega), if_pos (by omega)]) (by simp only [upd]; rw [if_neg (by omega), if_neg (by omega), if_pos (by omega)]) (by simp only [upd]; rw [if_neg (by omega), if_pos (by omega)]) (by simp only [upd]; rw [if_pos (by omega)]) (by unfold zItv; refine ⟨?_, ?_, ?_, ?_, ?_, ?_, ?_, ?_, ?_, ?_, ?_⟩ <;> (intros; omega)))), (show (∀ j : Nat, j < slot.toInt.toNat → (upd (upd (upd (upd fi slot.toNatClampNeg 3) x_101.toNatClampNeg r_105) x_119.toNatClampNeg r_122) x_136.toNatClampNeg r_139) j = fi j) from by (intro j hj; have e0 : slot.toNatClampNeg = slot.toInt.toNat + 0 := (by show (slot : Int32).toInt.toNat = _; omega); have e1 : x_101.toNatClampNeg = slot.toInt.toNat + 1 := (by show (x_101 : Int32).toInt.toNat = _; omega); have e2 : x_119.toNatClampNeg = slot.toInt.toNat + 2 := (by show (x_119 : Int32).toInt.toNat = _; omega); have e3 : x_136.toNatClampNeg = slot.toInt.toNat + 3 := (by show (x_136 : Int32).toInt.toNat = _; omega); simp only [upd]; rw [if_neg (by omega), if_neg (by omega), if_neg (by omega), if_neg (by omega)])), trivial⟩, by rw [ht]; exact hP.sub (ws' := [(rd, .inr (3, [.ref ri, .ref rl, .int rz, .int rc, .int q_141, .int q_142, .int rt, .int x_148])), (rl, .inl (cI, 160, .inl fl)), (ri, .inl (cI, 132, .inl (upd (upd (upd (upd fi slot.toNatClampNeg 3) x_101.toNatClampNeg r_105) x_119.toNatClampNeg r_122) x_136.toNatClampNeg r_139)))]) [1, 2, 0] rfl, hD.sub (ws' := [(rd, .inr (3, [.ref ri, .ref rl, .int rz, .int rc, .int q_141, .int q_142, .int rt, .int x_148])), (rl, .inl (cI, 160, .inl fl)), (ri, .inl (cI, 132, .inl (upd (upd (upd (upd fi slot.toNatClampNeg 3) x_101.toNatClampNeg r_105) x_119.toNatClampNeg r_122) x_136.toNatClampNeg r_139)))]) [1, 2, 0] (by decide) rfl⟩, hS.F ht⟩) hS.2.2 dX3_readItem_116
                          · exact absurd c_146 (by decide)
                        · exact absurd c_145 (by decide)
                      · have fc_143 : q_142.toInt ≠ (-1) := zf_ne c_143 rfl (by decide)
                        exact W.vret hx hb hr (fun t ht hW => ⟨⟨(q_141, q_142, rt, ru, (upd (upd (upd (upd fi slot.toNatClampNeg 3) x_101.toNatClampNeg r_105) x_119.toNatClampNeg r_122) x_136.toNatClampNeg r_139)), rfl, ⟨(show 0 ≤ q_141.toInt ∧ q_141.toInt ≤ 160 from hbq_141), (show (-1) ≤ q_142.toInt ∧ q_142.toInt ≤ 160 from hbq_142), (show 0 ≤ rt.toInt ∧ rt.toInt ≤ 40 from ⟨hy9, hy10⟩), (show 0 ≤ ru.toInt ∧ ru.toInt ≤ 8 from ⟨hy11, hy12⟩), (show q_141.toInt ≤ rz.toInt from by omega), (show (q_142.toInt = -1 → zIt (upd (upd (upd (upd fi slot.toNatClampNeg 3) x_101.toNatClampNeg r_105) x_119.toNatClampNeg r_122) x_136.toNatClampNeg r_139) slot.toInt.toNat) from by (intro h; have e0 : slot.toNatClampNeg = slot.toInt.toNat + 0 := (by show (slot : Int32).toInt.toNat = _; omega); have e1 : x_101.toNatClampNeg = slot.toInt.toNat + 1 := (by show (x_101 : Int32).toInt.toNat = _; omega); have e2 : x_119.toNatClampNeg = slot.toInt.toNat + 2 := (by show (x_119 : Int32).toInt.toNat = _; omega); have e3 : x_136.toNatClampNeg = slot.toInt.toNat + 3 := (by show (x_136 : Int32).toInt.toNat = _; omega); have k5 : (3 : Int32).toInt = 3 := (by decide); first | (exfalso; omega) | exact zIt_mk (by simp only [upd]; rw [if_neg (by omega), if_neg (by omega), if_neg (by omega), if_pos (by omega)]) (by simp only [upd]; rw [if_neg (by omega), if_neg (by omega), if_pos (by omega)]) (by simp only [upd]; rw [if_neg (by omega), if_pos (by omega)]) (by simp only [upd]; rw [if_pos (by omega)]) (by unfold zItv; refine ⟨?_, ?_, ?_, ?_, ?_, ?_, ?_, ?_, ?_, ?_, ?_⟩ <;> (intros; omega)))), (show (∀ j : Nat, j < slot.toInt.toNat → (upd (upd (upd (upd fi slot.toNatClampNeg 3) x_101.toNatClampNeg r_105) x_119.toNatClampNeg r_122) x_136.toNatClampNeg r_139) j = fi j) from by (intro j hj; have e0 : slot.toNatClampNeg = slot.toInt.toNat + 0 := (by show (slot : Int32).toInt.toNat = _; omega); have e1 : x_101.toNatClampNeg = slot.toInt.toNat + 1 := (by show (x_101 : Int32).toInt.toNat = _; omega); have e2 : x_119.toNatClampNeg = slot.toInt.toNat + 2 := (by show (x_119 : Int32).toInt.toNat = _; omega); have e3 : x_136.toNatClampNeg = slot.toInt.toNat + 3 := (by show (x_136 : Int32).toInt.toNat = _; omega); simp only [upd]; rw [if_neg (by omega), if_neg (by omega), if_neg (by omega), if_neg (by omega)])), trivial⟩, by rw [ht]; exact hP.sub (ws' := [(rd, .inr (3, [.ref ri, .ref rl, .int rz, .int rc, .int q_141, .int q_142, .int rt, .int ru])), (rl, .inl (cI, 160, .inl fl)), (ri, .inl (cI, 132, .inl (upd (upd (upd (upd fi slot.toNatClampNeg 3) x_101.toNatClampNeg r_105) x_119.toNatClampNeg r_122) x_136.toNatClampNeg r_139)))]) [1, 2, 0] rfl, hD.sub (ws' := [(rd, .inr (3, [.ref ri, .ref rl, .int rz, .int rc, .int q_141, .int q_142, .int rt, .int ru])), (rl, .inl (cI, 160, .inl fl)), (ri, .inl (cI, 132, .inl (upd (upd (upd (upd fi slot.toNatClampNeg 3) x_101.toNatClampNeg r_105) x_119.toNatClampNeg r_122) x_136.toNatClampNeg r_139)))]) [1, 2, 0] (by decide) rfl⟩, hS.F ht⟩) hS.2.2 dX3_readItem_75
                · have fc_126 : q_125.toInt ≠ (-1) := zf_ne c_126 rfl (by decide)
                  exact W.vret hx hb hr (fun t ht hW => ⟨⟨(q_124, q_125, rt, ru, (upd (upd (upd fi slot.toNatClampNeg 3) x_101.toNatClampNeg r_105) x_119.toNatClampNeg r_122)), rfl, ⟨(show 0 ≤ q_124.toInt ∧ q_124.toInt ≤ 160 from hbq_124), (show (-1) ≤ q_125.toInt ∧ q_125.toInt ≤ 160 from hbq_125), (show 0 ≤ rt.toInt ∧ rt.toInt ≤ 40 from ⟨hy9, hy10⟩), (show 0 ≤ ru.toInt ∧ ru.toInt ≤ 8 from ⟨hy11, hy12⟩), (show q_124.toInt ≤ rz.toInt from by omega), (show (q_125.toInt = -1 → zIt (upd (upd (upd fi slot.toNatClampNeg 3) x_101.toNatClampNeg r_105) x_119.toNatClampNeg r_122) slot.toInt.toNat) from by (intro h; have e0 : slot.toNatClampNeg = slot.toInt.toNat + 0 := (by show (slot : Int32).toInt.toNat = _; omega); have e1 : x_101.toNatClampNeg = slot.toInt.toNat + 1 := (by show (x_101 : Int32).toInt.toNat = _; omega); have e2 : x_119.toNatClampNeg = slot.toInt.toNat + 2 := (by show (x_119 : Int32).toInt.toNat = _; omega); have k4 : (3 : Int32).toInt = 3 := (by decide); first | (exfalso; omega) | exact zIt_mk (by simp only [upd]; rw [if_neg (by omega), if_neg (by omega), if_pos (by omega)]) (by simp only [upd]; rw [if_neg (by omega), if_pos (by omega)]) (by simp only [upd]; rw [if_pos (by omega)]) (rfl) (by unfold zItv; refine ⟨?_, ?_, ?_, ?_, ?_, ?_, ?_, ?_, ?_, ?_, ?_⟩ <;> (intros; omega)))), (show (∀ j : Nat, j < slot.toInt.toNat → (upd (upd (upd fi slot.toNatClampNeg 3) x_101.toNatClampNeg r_105) x_119.toNatClampNeg r_122) j = fi j) from by (intro j hj; have e0 : slot.toNatClampNeg = slot.toInt.toNat + 0 := (by show (slot : Int32).toInt.toNat = _; omega); have e1 : x_101.toNatClampNeg = slot.toInt.toNat + 1 := (by show (x_101 : Int32).toInt.toNat = _; omega); have e2 : x_119.toNatClampNeg = slot.toInt.toNat + 2 := (by show (x_119 : Int32).toInt.toNat = _; omega); simp only [upd]; rw [if_neg (by omega), if_neg (by omega), if_neg (by omega)])), trivial⟩, by rw [ht]; exact hP.sub (ws' := [(rd, .inr (3, [.ref ri, .ref rl, .int rz, .int rc, .int q_124, .int q_125, .int rt, .int ru])), (rl, .inl (cI, 160, .inl fl)), (ri, .inl (cI, 132, .inl (upd (upd (upd fi slot.toNatClampNeg 3) x_101.toNatClampNeg r_105) x_119.toNatClampNeg r_122)))]) [1, 2, 0] rfl, hD.sub (ws' := [(rd, .inr (3, [.ref ri, .ref rl, .int rz, .int rc, .int q_124, .int q_125, .int rt, .int ru])), (rl, .inl (cI, 160, .inl fl)), (ri, .inl (cI, 132, .inl (upd (upd (upd fi slot.toNatClampNeg 3) x_101.toNatClampNeg r_105) x_119.toNatClampNeg r_122)))]) [1, 2, 0] (by decide) rfl⟩, hS.F ht⟩) hS.2.2 dX3_readItem_75
          · have fc_109 : q_108.toInt ≠ (-1) := zf_ne c_109 rfl (by decide)
            exact W.vret hx hb hr (fun t ht hW => ⟨⟨(q_107, q_108, rt, ru, (upd (upd fi slot.toNatClampNeg 3) x_101.toNatClampNeg r_105)), rfl, ⟨(show 0 ≤ q_107.toInt ∧ q_107.toInt ≤ 160 from hbq_107), (show (-1) ≤ q_108.toInt ∧ q_108.toInt ≤ 160 from hbq_108), (show 0 ≤ rt.toInt ∧ rt.toInt ≤ 40 from ⟨hy9, hy10⟩), (show 0 ≤ ru.toInt ∧ ru.toInt ≤ 8 from ⟨hy11, hy12⟩), (show q_107.toInt ≤ rz.toInt from by omega), (show (q_108.toInt = -1 → zIt (upd (upd fi slot.toNatClampNeg 3) x_101.toNatClampNeg r_105) slot.toInt.toNat) from by (intro h; have e0 : slot.toNatClampNeg = slot.toInt.toNat + 0 := (by show (slot : Int32).toInt.toNat = _; omega); have e1 : x_101.toNatClampNeg = slot.toInt.toNat + 1 := (by show (x_101 : Int32).toInt.toNat = _; omega); have k3 : (3 : Int32).toInt = 3 := (by decide); first | (exfalso; omega) | exact zIt_mk (by simp only [upd]; rw [if_neg (by omega), if_pos (by omega)]) (by simp only [upd]; rw [if_pos (by omega)]) (rfl) (rfl) (by unfold zItv; refine ⟨?_, ?_, ?_, ?_, ?_, ?_, ?_, ?_, ?_, ?_, ?_⟩ <;> (intros; omega)))), (show (∀ j : Nat, j < slot.toInt.toNat → (upd (upd fi slot.toNatClampNeg 3) x_101.toNatClampNeg r_105) j = fi j) from by (intro j hj; have e0 : slot.toNatClampNeg = slot.toInt.toNat + 0 := (by show (slot : Int32).toInt.toNat = _; omega); have e1 : x_101.toNatClampNeg = slot.toInt.toNat + 1 := (by show (x_101 : Int32).toInt.toNat = _; omega); simp only [upd]; rw [if_neg (by omega), if_neg (by omega)])), trivial⟩, by rw [ht]; exact hP.sub (ws' := [(rd, .inr (3, [.ref ri, .ref rl, .int rz, .int rc, .int q_107, .int q_108, .int rt, .int ru])), (rl, .inl (cI, 160, .inl fl)), (ri, .inl (cI, 132, .inl (upd (upd fi slot.toNatClampNeg 3) x_101.toNatClampNeg r_105)))]) [1, 2, 0] rfl, hD.sub (ws' := [(rd, .inr (3, [.ref ri, .ref rl, .int rz, .int rc, .int q_107, .int q_108, .int rt, .int ru])), (rl, .inl (cI, 160, .inl fl)), (ri, .inl (cI, 132, .inl (upd (upd fi slot.toNatClampNeg 3) x_101.toNatClampNeg r_105)))]) [1, 2, 0] (by decide) rfl⟩, hS.F ht⟩) hS.2.2 dX3_readItem_75
    · have kc4 : (4 : Int32).toInt = 4 := by decide
      refine lv_aload_n hx hb dX3_readItem_11 rfl (lv_at hl 1 rfl) ?_
      refine va_get (D := D) (ci := 3) (v := .ref ri) (C := RX3) (T := TX3) (N := 8) hx hb hts hi_X3_readItem_3 hown hK hP 1 rfl rfl 0 (by decide) (hts (.fieldLink RX3 11 "TheLiningsInIt$Reader" "items" "[I") (List.mem_of_getElem? (i := 1) rfl)) (fun _ h9 => h9) rfl dX3_readItem_12 ?_
      refine lv_iload_n hx hb dX3_readItem_15 rfl (lv_at hl 2 rfl) ?_
      refine lv_iload_n hx hb dX3_readItem_16 rfl (lv_at hl 0 rfl) ?_
      refine va_iast hx hb hK hP hD hS 0 0 rfl rfl (zf_in (by omega) (by omega)) dX3_readItem_17 (fun H locs hP hD hS => ?_)
      replace hP : va_P D vwCl [(ri, .inl (cI, 132, .inl (upd fi slot.toNatClampNeg 4))), (rd, .inr (3, [.ref ri, .ref rl, .int rz, .int rc, .int q_3, .int q_4, .int rt, .int ru])), (rl, .inl (cI, 160, .inl fl))] H := hP
      replace hD : va_D _ [(ri, .inl (cI, 132, .inl (upd fi slot.toNatClampNeg 4))), (rd, .inr (3, [.ref ri, .ref rl, .int rz, .int rc, .int q_3, .int q_4, .int rt, .int ru])), (rl, .inl (cI, 160, .inl fl))] := hD
      refine lv_iconst (v := 0) hx hb dX3_readItem_18 (by decide) ?_
      refine lv_istore_n (lv' := [(3, .int 0), (2, .int 4), (0, .ref rd), (1, .int slot)]) hx hb dX3_readItem_19 rfl hl (by decide) rfl (fun ls hl => ?_)
      refine lv_iload_n hx hb dX3_readItem_20 rfl (lv_at hl 0 rfl) ?_
      refine lv_iload_n hx hb dX3_readItem_21 rfl (lv_at hl 1 rfl) ?_
      refine zc_S (As := [.int 4]) (rest := [.int 0]) ⟨hx, hb, hml, hown, hts⟩ (c_R_numbersOf_4 l D cI cJ cZ cP cS po  ) (va_cwS 1 hts gX3_readItem_X3_numbersOf rfl rfl rfl (by decide +kernel) ⟨Nat.le_of_ble_eq_true rfl, Nat.le_of_ble_eq_true rfl⟩) hK hN (hZ.kept hS) rfl hl.1 rfl (Nat.le_of_ble_eq_true rfl) dX3_readItem_22 ⟨Nat.le_of_ble_eq_true rfl, Nat.le_of_ble_eq_true rfl⟩ (fun r_149 hr_149 => ?_)
      obtain rfl := hr_149
      refine lv_icmp_ge (tgt := 82) hx hb dX3_readItem_25 (by decide) (fun c_150 => ?_) (fun c_150 => ?_)
      · exact absurd c_150 (by decide)
      · refine lv_aload_n hx hb dX3_readItem_28 rfl (lv_at hl 2 rfl) ?_
        refine lv_bipush (v := 32) hx hb dX3_readItem_29 (by decide) ?_
        skip
        refine zw_Vv (As := [.int 32]) (rest := []) (wr := [(ri, .inl (cI, 132, .inl (upd fi slot.toNatClampNeg 4)))]) ⟨hx, hb, hml, hown, hts⟩ (c_R_expect l D cI cJ cZ cP cS po rd ri rl (rz) (rc) (q_3) (q_4) (rt) (ru) fl (32) hy0 hy1 hy2 hy3 hbq_3.1 hbq_3.2 (by omega) hbq_4.1 hbq_4.2 hy9 hy10 hy11 hy12 H.size) (cwV 1 hts gX3_readItem_X3_expect rfl rfl rfl (by decide +kernel) ⟨Nat.le_of_ble_eq_true rfl, Nat.le_of_ble_eq_true rfl⟩) hK hN (hZ.kept hS) hP hD hS hA [1, 2] [0] rfl rfl (by decide) (by decide) (by decide) (va_recv hK hP (ci := 3) (q0 := 1) rfl rfl) rfl hl.1 rfl (Nat.le_of_ble_eq_true rfl) dX3_readItem_31 ⟨Nat.le_of_ble_eq_true rfl, Nat.le_of_ble_eq_true rfl⟩ (fun u_152 H locs hr_151 hP hD hS => ?_)
        obtain ⟨q_153, q_154⟩ := u_152
        try dsimp only at hr_151
        obtain ⟨hbq_153, hbq_154, hsr_151_0, hsr_151_1, hr_151⟩ := hr_151
        replace hP : va_P D vwCl [(ri, .inl (cI, 132, .inl (upd fi slot.toNatClampNeg 4))), (rd, .inr (3, [.ref ri, .ref rl, .int rz, .int rc, .int q_153, .int q_154, .int rt, .int ru])), (rl, .inl (cI, 160, .inl fl))] H := hP
        replace hD : va_D _ [(ri, .inl (cI, 132, .inl (upd fi slot.toNatClampNeg 4))), (rd, .inr (3, [.ref ri, .ref rl, .int rz, .int rc, .int q_153, .int q_154, .int rt, .int ru])), (rl, .inl (cI, 160, .inl fl))] := hD
        refine lv_aload_n hx hb dX3_readItem_34 rfl (lv_at hl 2 rfl) ?_
        refine va_get (D := D) (ci := 3) (v := .int q_154) (C := RX3) (T := TX3) (N := 8) hx hb hts hi_X3_readItem_3 hown hK hP 1 rfl rfl 5 (by decide) (hts (.fieldLink RX3 28 "TheLiningsInIt$Reader" "fault" "I") (List.mem_of_getElem? (i := 2) rfl)) (fun _ h9 => h9) rfl dX3_readItem_35 ?_
        refine lv_iconst (v := (-1)) hx hb dX3_readItem_38 (by decide) ?_
        refine lv_icmp_ne (tgt := 67) hx hb dX3_readItem_39 (by decide) (fun c_155 => ?_) (fun c_155 => ?_)
        · have fc_155 : q_154.toInt ≠ (-1) := zf_ne c_155 rfl (by decide)
          refine lv_aload_n hx hb dX3_readItem_67 rfl (lv_at hl 2 rfl) ?_
          refine va_get (D := D) (ci := 3) (v := .int q_154) (C := RX3) (T := TX3) (N := 8) hx hb hts hi_X3_readItem_3 hown hK hP 1 rfl rfl 5 (by decide) (hts (.fieldLink RX3 28 "TheLiningsInIt$Reader" "fault" "I") (List.mem_of_getElem? (i := 2) rfl)) (fun _ h9 => h9) rfl dX3_readItem_68 ?_
          refine lv_iconst (v := (-1)) hx hb dX3_readItem_71 (by decide) ?_
          refine lv_icmp_eq (tgt := 76) hx hb dX3_readItem_72 (by decide) (fun c_156 => ?_) (fun c_156 => ?_)
          · exfalso; have fc_156 : q_154.toInt = (-1) := zf_eq c_156 rfl (by decide); omega
          · have fc_156 : q_154.toInt ≠ (-1) := zf_ne c_156 rfl (by decide)
            exact W.vret hx hb hr (fun t ht hW => ⟨⟨(q_153, q_154, rt, ru, (upd fi slot.toNatClampNeg 4)), rfl, ⟨(show 0 ≤ q_153.toInt ∧ q_153.toInt ≤ 160 from hbq_153), (show (-1) ≤ q_154.toInt ∧ q_154.toInt ≤ 160 from hbq_154), (show 0 ≤ rt.toInt ∧ rt.toInt ≤ 40 from ⟨hy9, hy10⟩), (show 0 ≤ ru.toInt ∧ ru.toInt ≤ 8 from ⟨hy11, hy12⟩), (show q_153.toInt ≤ rz.toInt from by omega), (show (q_154.toInt = -1 → zIt (upd fi slot.toNatClampNeg 4) slot.toInt.toNat) from by (intro h; have e0 : slot.toNatClampNeg = slot.toInt.toNat + 0 := (by show (slot : Int32).toInt.toNat = _; omega); have k2 : (4 : Int32).toInt = 4 := (by decide); first | (exfalso; omega) | exact zIt_mk (by simp only [upd]; rw [if_pos (by omega)]) (rfl) (rfl) (rfl) (by unfold zItv; refine ⟨?_, ?_, ?_, ?_, ?_, ?_, ?_, ?_, ?_, ?_, ?_⟩ <;> (intros; omega)))), (show (∀ j : Nat, j < slot.toInt.toNat → (upd fi slot.toNatClampNeg 4) j = fi j) from by (intro j hj; have e0 : slot.toNatClampNeg = slot.toInt.toNat + 0 := (by show (slot : Int32).toInt.toNat = _; omega); simp only [upd]; rw [if_neg (by omega)])), trivial⟩, by rw [ht]; exact hP.sub (ws' := [(rd, .inr (3, [.ref ri, .ref rl, .int rz, .int rc, .int q_153, .int q_154, .int rt, .int ru])), (rl, .inl (cI, 160, .inl fl)), (ri, .inl (cI, 132, .inl (upd fi slot.toNatClampNeg 4)))]) [1, 2, 0] rfl, hD.sub (ws' := [(rd, .inr (3, [.ref ri, .ref rl, .int rz, .int rc, .int q_153, .int q_154, .int rt, .int ru])), (rl, .inl (cI, 160, .inl fl)), (ri, .inl (cI, 132, .inl (upd fi slot.toNatClampNeg 4)))]) [1, 2, 0] (by decide) rfl⟩, hS.F ht⟩) hS.2.2 dX3_readItem_75
        · have fc_155 : q_154.toInt = (-1) := zf_eq c_155 rfl (by decide)
          refine lv_aload_n hx hb dX3_readItem_42 rfl (lv_at hl 2 rfl) ?_
          refine va_get (D := D) (ci := 3) (v := .ref ri) (C := RX3) (T := TX3) (N := 8) hx hb hts hi_X3_readItem_3 hown hK hP 1 rfl rfl 0 (by decide) (hts (.fieldLink RX3 11 "TheLiningsInIt$Reader" "items" "[I") (List.mem_of_getElem? (i := 1) rfl)) (fun _ h9 => h9) rfl dX3_readItem_43 ?_
          refine lv_iload_n hx hb dX3_readItem_46 rfl (lv_at hl 3 rfl) ?_
          refine lv_iconst (v := 1) hx hb dX3_readItem_47 (by decide) ?_
          refine lv_iadd hx hb dX3_readItem_48 ?_
          refine lv_topi (fun x_157 ex_157 => ?_)
          have qx_157 : x_157.toInt = slot.toInt + 1 := by rw [ex_157]; exact zf_add rfl (by decide) (by omega) (by omega)
          refine lv_iload_n hx hb dX3_readItem_49 rfl (lv_at hl 0 rfl) ?_
          refine lv_iadd hx hb dX3_readItem_50 ?_
          refine lv_topi (fun y_158 ey_158 => ?_)
          obtain rfl : x_157 = y_158 := (ey_158.trans (Int32.add_zero x_157)).symm
          refine lv_aload_n hx hb dX3_readItem_51 rfl (lv_at hl 2 rfl) ?_
          refine lv_iload_n hx hb dX3_readItem_52 rfl (lv_at hl 1 rfl) ?_
          refine lv_iload_n hx hb dX3_readItem_53 rfl (lv_at hl 0 rfl) ?_
          refine zc_S (As := [.int 4, .int 0]) (rest := [.ref rd, .int x_157, .ref ri]) ⟨hx, hb, hml, hown, hts⟩ (c_R_leastOf_4_0 l D cI cJ cZ cP cS po  ) (va_cwS 2 hts gX3_readItem_X3_leastOf rfl rfl rfl (by decide +kernel) ⟨Nat.le_of_ble_eq_true rfl, Nat.le_of_ble_eq_true rfl⟩) hK hN (hZ.kept hS) rfl hl.1 rfl (Nat.le_of_ble_eq_true rfl) dX3_readItem_54 ⟨Nat.le_of_ble_eq_true rfl, Nat.le_of_ble_eq_true rfl⟩ (fun r_159 hr_159 => ?_)
          obtain rfl := hr_159
          refine lv_aload_n hx hb dX3_readItem_57 rfl (lv_at hl 2 rfl) ?_
          refine lv_iload_n hx hb dX3_readItem_58 rfl (lv_at hl 1 rfl) ?_
          refine lv_iload_n hx hb dX3_readItem_59 rfl (lv_at hl 0 rfl) ?_
          refine zc_V (As := [.int 4, .int 0]) (rest := [.int 0, .ref rd, .int x_157, .ref ri]) ⟨hx, hb, hml, hown, hts⟩ (c_R_mostOf_4_0 l D cI cJ cZ cP cS po rd ri rl (rz) (rc) (q_153) (q_154) (rt) (ru) hy0 hy1 hy2 hy3 hbq_153.1 hbq_153.2 (by omega) hbq_154.1 hbq_154.2 hy9 hy10 hy11 hy12) (cwV 2 hts gX3_readItem_X3_mostOf rfl rfl rfl (by decide +kernel) ⟨Nat.le_of_ble_eq_true rfl, Nat.le_of_ble_eq_true rfl⟩) hK hN (hZ.kept hS) hP (hP.sub [1] rfl) (va_recv hK hP (ci := 3) (q0 := 1) rfl rfl) rfl hl.1 rfl (Nat.le_of_ble_eq_true rfl) dX3_readItem_60 ⟨Nat.le_of_ble_eq_true rfl, Nat.le_of_ble_eq_true rfl⟩ (fun r_160 hr_160 => ?_)
          obtain rfl := hr_160
          have kc0 : (0 : Int32).toInt = 0 := by decide
          have kc24 : (24 : Int32).toInt = 24 := by decide
          skip
          refine zw_V (As := [.int 0, .int 24]) (rest := [.int x_157, .ref ri]) (wr := [(ri, .inl (cI, 132, .inl (upd fi slot.toNatClampNeg 4)))]) ⟨hx, hb, hml, hown, hts⟩ (c_R_readNumber l D cI cJ cZ cP cS po rd ri rl (rz) (rc) (q_153) (q_154) (rt) (ru) fl (0) (24) hy0 hy1 hy2 hy3 hbq_153.1 hbq_153.2 (by omega) hbq_154.1 hbq_154.2 hy9 hy10 hy11 hy12 H.size) (cwV 2 hts gX3_readItem_X3_readNumber rfl rfl rfl (by decide +kernel) ⟨Nat.le_of_ble_eq_true rfl, Nat.le_of_ble_eq_true rfl⟩) hK hN (hZ.kept hS) hP hD hS hA [1, 2] [0] rfl rfl (by decide) (by decide) (by decide) (va_recv hK hP (ci := 3) (q0 := 1) rfl rfl) rfl hl.1 rfl (Nat.le_of_ble_eq_true rfl) dX3_readItem_63 ⟨Nat.le_of_ble_eq_true rfl, Nat.le_of_ble_eq_true rfl⟩ (fun r_161 u_162 H locs hr_161 hP hD hS => ?_)
          obtain ⟨q_163, q_164⟩ := u_162
          try dsimp only at hr_161
          obtain ⟨hbq_163, hbq_164, hsr_161_0, hsr_161_1, hr_161⟩ := hr_161
          replace hP : va_P D vwCl [(ri, .inl (cI, 132, .inl (upd fi slot.toNatClampNeg 4))), (rd, .inr (3, [.ref ri, .ref rl, .int rz, .int rc, .int q_163, .int q_164, .int rt, .int ru])), (rl, .inl (cI, 160, .inl fl))] H := hP
          replace hD : va_D _ [(ri, .inl (cI, 132, .inl (upd fi slot.toNatClampNeg 4))), (rd, .inr (3, [.ref ri, .ref rl, .int rz, .int rc, .int q_163, .int q_164, .int rt, .int ru])), (rl, .inl (cI, 160, .inl fl))] := hD
          refine va_iast hx hb hK hP hD hS 0 0 rfl rfl (zf_in (by omega) (by omega)) dX3_readItem_66 (fun H locs hP hD hS => ?_)
          replace hP : va_P D vwCl [(ri, .inl (cI, 132, .inl (upd (upd fi slot.toNatClampNeg 4) x_157.toNatClampNeg r_161))), (rd, .inr (3, [.ref ri, .ref rl, .int rz, .int rc, .int q_163, .int q_164, .int rt, .int ru])), (rl, .inl (cI, 160, .inl fl))] H := hP
          replace hD : va_D _ [(ri, .inl (cI, 132, .inl (upd (upd fi slot.toNatClampNeg 4) x_157.toNatClampNeg r_161))), (rd, .inr (3, [.ref ri, .ref rl, .int rz, .int rc, .int q_163, .int q_164, .int rt, .int ru])), (rl, .inl (cI, 160, .inl fl))] := hD
          refine lv_aload_n hx hb dX3_readItem_67 rfl (lv_at hl 2 rfl) ?_
          refine va_get (D := D) (ci := 3) (v := .int q_164) (C := RX3) (T := TX3) (N := 8) hx hb hts hi_X3_readItem_3 hown hK hP 1 rfl rfl 5 (by decide) (hts (.fieldLink RX3 28 "TheLiningsInIt$Reader" "fault" "I") (List.mem_of_getElem? (i := 2) rfl)) (fun _ h9 => h9) rfl dX3_readItem_68 ?_
          refine lv_iconst (v := (-1)) hx hb dX3_readItem_71 (by decide) ?_
          refine lv_icmp_eq (tgt := 76) hx hb dX3_readItem_72 (by decide) (fun c_165 => ?_) (fun c_165 => ?_)
          · have fc_165 : q_164.toInt = (-1) := zf_eq c_165 rfl (by decide)
            refine lv_iinc (v := 1) (lv' := [(3, .int 1), (2, .int 4), (0, .ref rd), (1, .int slot)]) hx hb dX3_readItem_76 hl (k := 0) rfl (by decide) (by decide) rfl (fun ls hl => ?_)
            refine lv_goto (tgt := 20) hx hb dX3_readItem_79 (by decide) ?_
            refine lv_iload_n hx hb dX3_readItem_20 rfl (lv_at hl 0 rfl) ?_
            refine lv_iload_n hx hb dX3_readItem_21 rfl (lv_at hl 1 rfl) ?_
            refine zc_S (As := [.int 4]) (rest := [.int 1]) ⟨hx, hb, hml, hown, hts⟩ (c_R_numbersOf_4 l D cI cJ cZ cP cS po  ) (va_cwS 1 hts gX3_readItem_X3_numbersOf rfl rfl rfl (by decide +kernel) ⟨Nat.le_of_ble_eq_true rfl, Nat.le_of_ble_eq_true rfl⟩) hK hN (hZ.kept hS) rfl hl.1 rfl (Nat.le_of_ble_eq_true rfl) dX3_readItem_22 ⟨Nat.le_of_ble_eq_true rfl, Nat.le_of_ble_eq_true rfl⟩ (fun r_166 hr_166 => ?_)
            obtain rfl := hr_166
            refine lv_icmp_ge (tgt := 82) hx hb dX3_readItem_25 (by decide) (fun c_167 => ?_) (fun c_167 => ?_)
            · refine lv_iload_n hx hb dX3_readItem_82 rfl (lv_at hl 1 rfl) ?_
              refine lv_if_ne (tgt := 101) hx hb dX3_readItem_83 (by decide) (fun c_168 => ?_) (fun c_168 => ?_)
              · refine lv_iload_n hx hb dX3_readItem_101 rfl (lv_at hl 1 rfl) ?_
                refine lv_iconst (v := 3) hx hb dX3_readItem_102 (by decide) ?_
                refine lv_icmp_ne (tgt := 116) hx hb dX3_readItem_103 (by decide) (fun c_169 => ?_) (fun c_169 => ?_)
                · exact W.vret hx hb hr (fun t ht hW => ⟨⟨(q_163, q_164, rt, ru, (upd (upd fi slot.toNatClampNeg 4) x_157.toNatClampNeg r_161)), rfl, ⟨(show 0 ≤ q_163.toInt ∧ q_163.toInt ≤ 160 from hbq_163), (show (-1) ≤ q_164.toInt ∧ q_164.toInt ≤ 160 from hbq_164), (show 0 ≤ rt.toInt ∧ rt.toInt ≤ 40 from ⟨hy9, hy10⟩), (show 0 ≤ ru.toInt ∧ ru.toInt ≤ 8 from ⟨hy11, hy12⟩), (show q_163.toInt ≤ rz.toInt from by omega), (show (q_164.toInt = -1 → zIt (upd (upd fi slot.toNatClampNeg 4) x_157.toNatClampNeg r_161) slot.toInt.toNat) from by (intro h; have e0 : slot.toNatClampNeg = slot.toInt.toNat + 0 := (by show (slot : Int32).toInt.toNat = _; omega); have e1 : x_157.toNatClampNeg = slot.toInt.toNat + 1 := (by show (x_157 : Int32).toInt.toNat = _; omega); have k3 : (4 : Int32).toInt = 4 := (by decide); first | (exfalso; omega) | exact zIt_mk (by simp only [upd]; rw [if_neg (by omega), if_pos (by omega)]) (by simp only [upd]; rw [if_pos (by omega)]) (rfl) (rfl) (by unfold zItv; refine ⟨?_, ?_, ?_, ?_, ?_, ?_, ?_, ?_, ?_, ?_, ?_⟩ <;> (intros; omega)))), (show (∀ j : Nat, j < slot.toInt.toNat → (upd (upd fi slot.toNatClampNeg 4) x_157.toNatClampNeg r_161) j = fi j) from by (intro j hj; have e0 : slot.toNatClampNeg = slot.toInt.toNat + 0 := (by show (slot : Int32).toInt.toNat = _; omega); have e1 : x_157.toNatClampNeg = slot.toInt.toNat + 1 := (by show (x_157 : Int32).toInt.toNat = _; omega); simp only [upd]; rw [if_neg (by omega), if_neg (by omega)])), trivial⟩, by rw [ht]; exact hP.sub (ws' := [(rd, .inr (3, [.ref ri, .ref rl, .int rz, .int rc, .int q_163, .int q_164, .int rt, .int ru])), (rl, .inl (cI, 160, .inl fl)), (ri, .inl (cI, 132, .inl (upd (upd fi slot.toNatClampNeg 4) x_157.toNatClampNeg r_161)))]) [1, 2, 0] rfl, hD.sub (ws' := [(rd, .inr (3, [.ref ri, .ref rl, .int rz, .int rc, .int q_163, .int q_164, .int rt, .int ru])), (rl, .inl (cI, 160, .inl fl)), (ri, .inl (cI, 132, .inl (upd (upd fi slot.toNatClampNeg 4) x_157.toNatClampNeg r_161)))]) [1, 2, 0] (by decide) rfl⟩, hS.F ht⟩) hS.2.2 dX3_readItem_116
                · exact absurd c_169 (by decide)
              · exact absurd c_168 (by decide)
            · exact absurd c_167 (by decide)
          · have fc_165 : q_164.toInt ≠ (-1) := zf_ne c_165 rfl (by decide)
            exact W.vret hx hb hr (fun t ht hW => ⟨⟨(q_163, q_164, rt, ru, (upd (upd fi slot.toNatClampNeg 4) x_157.toNatClampNeg r_161)), rfl, ⟨(show 0 ≤ q_163.toInt ∧ q_163.toInt ≤ 160 from hbq_163), (show (-1) ≤ q_164.toInt ∧ q_164.toInt ≤ 160 from hbq_164), (show 0 ≤ rt.toInt ∧ rt.toInt ≤ 40 from ⟨hy9, hy10⟩), (show 0 ≤ ru.toInt ∧ ru.toInt ≤ 8 from ⟨hy11, hy12⟩), (show q_163.toInt ≤ rz.toInt from by omega), (show (q_164.toInt = -1 → zIt (upd (upd fi slot.toNatClampNeg 4) x_157.toNatClampNeg r_161) slot.toInt.toNat) from by (intro h; have e0 : slot.toNatClampNeg = slot.toInt.toNat + 0 := (by show (slot : Int32).toInt.toNat = _; omega); have e1 : x_157.toNatClampNeg = slot.toInt.toNat + 1 := (by show (x_157 : Int32).toInt.toNat = _; omega); have k3 : (4 : Int32).toInt = 4 := (by decide); first | (exfalso; omega) | exact zIt_mk (by simp only [upd]; rw [if_neg (by omega), if_pos (by omega)]) (by simp only [upd]; rw [if_pos (by omega)]) (rfl) (rfl) (by unfold zItv; refine ⟨?_, ?_, ?_, ?_, ?_, ?_, ?_, ?_, ?_, ?_, ?_⟩ <;> (intros; omega)))), (show (∀ j : Nat, j < slot.toInt.toNat → (upd (upd fi slot.toNatClampNeg 4) x_157.toNatClampNeg r_161) j = fi j) from by (intro j hj; have e0 : slot.toNatClampNeg = slot.toInt.toNat + 0 := (by show (slot : Int32).toInt.toNat = _; omega); have e1 : x_157.toNatClampNeg = slot.toInt.toNat + 1 := (by show (x_157 : Int32).toInt.toNat = _; omega); simp only [upd]; rw [if_neg (by omega), if_neg (by omega)])), trivial⟩, by rw [ht]; exact hP.sub (ws' := [(rd, .inr (3, [.ref ri, .ref rl, .int rz, .int rc, .int q_163, .int q_164, .int rt, .int ru])), (rl, .inl (cI, 160, .inl fl)), (ri, .inl (cI, 132, .inl (upd (upd fi slot.toNatClampNeg 4) x_157.toNatClampNeg r_161)))]) [1, 2, 0] rfl, hD.sub (ws' := [(rd, .inr (3, [.ref ri, .ref rl, .int rz, .int rc, .int q_163, .int q_164, .int rt, .int ru])), (rl, .inl (cI, 160, .inl fl)), (ri, .inl (cI, 132, .inl (upd (upd fi slot.toNatClampNeg 4) x_157.toNatClampNeg r_161)))]) [1, 2, 0] (by decide) rfl⟩, hS.F ht⟩) hS.2.2 dX3_readItem_75
    · have kc5 : (5 : Int32).toInt = 5 := by decide
      refine lv_aload_n hx hb dX3_readItem_11 rfl (lv_at hl 1 rfl) ?_
      refine va_get (D := D) (ci := 3) (v := .ref ri) (C := RX3) (T := TX3) (N := 8) hx hb hts hi_X3_readItem_3 hown hK hP 1 rfl rfl 0 (by decide) (hts (.fieldLink RX3 11 "TheLiningsInIt$Reader" "items" "[I") (List.mem_of_getElem? (i := 1) rfl)) (fun _ h9 => h9) rfl dX3_readItem_12 ?_
      refine lv_iload_n hx hb dX3_readItem_15 rfl (lv_at hl 2 rfl) ?_
      refine lv_iload_n hx hb dX3_readItem_16 rfl (lv_at hl 0 rfl) ?_
      refine va_iast hx hb hK hP hD hS 0 0 rfl rfl (zf_in (by omega) (by omega)) dX3_readItem_17 (fun H locs hP hD hS => ?_)
      replace hP : va_P D vwCl [(ri, .inl (cI, 132, .inl (upd fi slot.toNatClampNeg 5))), (rd, .inr (3, [.ref ri, .ref rl, .int rz, .int rc, .int q_3, .int q_4, .int rt, .int ru])), (rl, .inl (cI, 160, .inl fl))] H := hP
      replace hD : va_D _ [(ri, .inl (cI, 132, .inl (upd fi slot.toNatClampNeg 5))), (rd, .inr (3, [.ref ri, .ref rl, .int rz, .int rc, .int q_3, .int q_4, .int rt, .int ru])), (rl, .inl (cI, 160, .inl fl))] := hD
      refine lv_iconst (v := 0) hx hb dX3_readItem_18 (by decide) ?_
      refine lv_istore_n (lv' := [(3, .int 0), (2, .int 5), (0, .ref rd), (1, .int slot)]) hx hb dX3_readItem_19 rfl hl (by decide) rfl (fun ls hl => ?_)
      refine lv_iload_n hx hb dX3_readItem_20 rfl (lv_at hl 0 rfl) ?_
      refine lv_iload_n hx hb dX3_readItem_21 rfl (lv_at hl 1 rfl) ?_
      refine zc_S (As := [.int 5]) (rest := [.int 0]) ⟨hx, hb, hml, hown, hts⟩ (c_R_numbersOf_5 l D cI cJ cZ cP cS po  ) (va_cwS 1 hts gX3_readItem_X3_numbersOf rfl rfl rfl (by decide +kernel) ⟨Nat.le_of_ble_eq_true rfl, Nat.le_of_ble_eq_true rfl⟩) hK hN (hZ.kept hS) rfl hl.1 rfl (Nat.le_of_ble_eq_true rfl) dX3_readItem_22 ⟨Nat.le_of_ble_eq_true rfl, Nat.le_of_ble_eq_true rfl⟩ (fun r_170 hr_170 => ?_)
      obtain rfl := hr_170
      refine lv_icmp_ge (tgt := 82) hx hb dX3_readItem_25 (by decide) (fun c_171 => ?_) (fun c_171 => ?_)
      · exact absurd c_171 (by decide)
      · refine lv_aload_n hx hb dX3_readItem_28 rfl (lv_at hl 2 rfl) ?_
        refine lv_bipush (v := 32) hx hb dX3_readItem_29 (by decide) ?_
        skip
        refine zw_Vv (As := [.int 32]) (rest := []) (wr := [(ri, .inl (cI, 132, .inl (upd fi slot.toNatClampNeg 5)))]) ⟨hx, hb, hml, hown, hts⟩ (c_R_expect l D cI cJ cZ cP cS po rd ri rl (rz) (rc) (q_3) (q_4) (rt) (ru) fl (32) hy0 hy1 hy2 hy3 hbq_3.1 hbq_3.2 (by omega) hbq_4.1 hbq_4.2 hy9 hy10 hy11 hy12 H.size) (cwV 1 hts gX3_readItem_X3_expect rfl rfl rfl (by decide +kernel) ⟨Nat.le_of_ble_eq_true rfl, Nat.le_of_ble_eq_true rfl⟩) hK hN (hZ.kept hS) hP hD hS hA [1, 2] [0] rfl rfl (by decide) (by decide) (by decide) (va_recv hK hP (ci := 3) (q0 := 1) rfl rfl) rfl hl.1 rfl (Nat.le_of_ble_eq_true rfl) dX3_readItem_31 ⟨Nat.le_of_ble_eq_true rfl, Nat.le_of_ble_eq_true rfl⟩ (fun u_173 H locs hr_172 hP hD hS => ?_)
        obtain ⟨q_174, q_175⟩ := u_173
        try dsimp only at hr_172
        obtain ⟨hbq_174, hbq_175, hsr_172_0, hsr_172_1, hr_172⟩ := hr_172
        replace hP : va_P D vwCl [(ri, .inl (cI, 132, .inl (upd fi slot.toNatClampNeg 5))), (rd, .inr (3, [.ref ri, .ref rl, .int rz, .int rc, .int q_174, .int q_175, .int rt, .int ru])), (rl, .inl (cI, 160, .inl fl))] H := hP
        replace hD : va_D _ [(ri, .inl (cI, 132, .inl (upd fi slot.toNatClampNeg 5))), (rd, .inr (3, [.ref ri, .ref rl, .int rz, .int rc, .int q_174, .int q_175, .int rt, .int ru])), (rl, .inl (cI, 160, .inl fl))] := hD
        refine lv_aload_n hx hb dX3_readItem_34 rfl (lv_at hl 2 rfl) ?_
        refine va_get (D := D) (ci := 3) (v := .int q_175) (C := RX3) (T := TX3) (N := 8) hx hb hts hi_X3_readItem_3 hown hK hP 1 rfl rfl 5 (by decide) (hts (.fieldLink RX3 28 "TheLiningsInIt$Reader" "fault" "I") (List.mem_of_getElem? (i := 2) rfl)) (fun _ h9 => h9) rfl dX3_readItem_35 ?_
        refine lv_iconst (v := (-1)) hx hb dX3_readItem_38 (by decide) ?_
        refine lv_icmp_ne (tgt := 67) hx hb dX3_readItem_39 (by decide) (fun c_176 => ?_) (fun c_176 => ?_)
        · have fc_176 : q_175.toInt ≠ (-1) := zf_ne c_176 rfl (by decide)
          refine lv_aload_n hx hb dX3_readItem_67 rfl (lv_at hl 2 rfl) ?_
          refine va_get (D := D) (ci := 3) (v := .int q_175) (C := RX3) (T := TX3) (N := 8) hx hb hts hi_X3_readItem_3 hown hK hP 1 rfl rfl 5 (by decide) (hts (.fieldLink RX3 28 "TheLiningsInIt$Reader" "fault" "I") (List.mem_of_getElem? (i := 2) rfl)) (fun _ h9 => h9) rfl dX3_readItem_68 ?_
          refine lv_iconst (v := (-1)) hx hb dX3_readItem_71 (by decide) ?_
          refine lv_icmp_eq (tgt := 76) hx hb dX3_readItem_72 (by decide) (fun c_177 => ?_) (fun c_177 => ?_)
          · exfalso; have fc_177 : q_175.toInt = (-1) := zf_eq c_177 rfl (by decide); omega
          · have fc_177 : q_175.toInt ≠ (-1) := zf_ne c_177 rfl (by decide)
            exact W.vret hx hb hr (fun t ht hW => ⟨⟨(q_174, q_175, rt, ru, (upd fi slot.toNatClampNeg 5)), rfl, ⟨(show 0 ≤ q_174.toInt ∧ q_174.toInt ≤ 160 from hbq_174), (show (-1) ≤ q_175.toInt ∧ q_175.toInt ≤ 160 from hbq_175), (show 0 ≤ rt.toInt ∧ rt.toInt ≤ 40 from ⟨hy9, hy10⟩), (show 0 ≤ ru.toInt ∧ ru.toInt ≤ 8 from ⟨hy11, hy12⟩), (show q_174.toInt ≤ rz.toInt from by omega), (show (q_175.toInt = -1 → zIt (upd fi slot.toNatClampNeg 5) slot.toInt.toNat) from by (intro h; have e0 : slot.toNatClampNeg = slot.toInt.toNat + 0 := (by show (slot : Int32).toInt.toNat = _; omega); have k2 : (5 : Int32).toInt = 5 := (by decide); first | (exfalso; omega) | exact zIt_mk (by simp only [upd]; rw [if_pos (by omega)]) (rfl) (rfl) (rfl) (by unfold zItv; refine ⟨?_, ?_, ?_, ?_, ?_, ?_, ?_, ?_, ?_, ?_, ?_⟩ <;> (intros; omega)))), (show (∀ j : Nat, j < slot.toInt.toNat → (upd fi slot.toNatClampNeg 5) j = fi j) from by (intro j hj; have e0 : slot.toNatClampNeg = slot.toInt.toNat + 0 := (by show (slot : Int32).toInt.toNat = _; omega); simp only [upd]; rw [if_neg (by omega)])), trivial⟩, by rw [ht]; exact hP.sub (ws' := [(rd, .inr (3, [.ref ri, .ref rl, .int rz, .int rc, .int q_174, .int q_175, .int rt, .int ru])), (rl, .inl (cI, 160, .inl fl)), (ri, .inl (cI, 132, .inl (upd fi slot.toNatClampNeg 5)))]) [1, 2, 0] rfl, hD.sub (ws' := [(rd, .inr (3, [.ref ri, .ref rl, .int rz, .int rc, .int q_174, .int q_175, .int rt, .int ru])), (rl, .inl (cI, 160, .inl fl)), (ri, .inl (cI, 132, .inl (upd fi slot.toNatClampNeg 5)))]) [1, 2, 0] (by decide) rfl⟩, hS.F ht⟩) hS.2.2 dX3_readItem_75
        · have fc_176 : q_175.toInt = (-1) := zf_eq c_176 rfl (by decide)
          refine lv_aload_n hx hb dX3_readItem_42 rfl (lv_at hl 2 rfl) ?_
          refine va_get (D := D) (ci := 3) (v := .ref ri) (C := RX3) (T := TX3) (N := 8) hx hb hts hi_X3_readItem_3 hown hK hP 1 rfl rfl 0 (by decide) (hts (.fieldLink RX3 11 "TheLiningsInIt$Reader" "items" "[I") (List.mem_of_getElem? (i := 1) rfl)) (fun _ h9 => h9) rfl dX3_readItem_43 ?_
          refine lv_iload_n hx hb dX3_readItem_46 rfl (lv_at hl 3 rfl) ?_
          refine lv_iconst (v := 1) hx hb dX3_readItem_47 (by decide) ?_
          refine lv_iadd hx hb dX3_readItem_48 ?_
          refine lv_topi (fun x_178 ex_178 => ?_)
          have qx_178 : x_178.toInt = slot.toInt + 1 := by rw [ex_178]; exact zf_add rfl (by decide) (by omega) (by omega)
          refine lv_iload_n hx hb dX3_readItem_49 rfl (lv_at hl 0 rfl) ?_
          refine lv_iadd hx hb dX3_readItem_50 ?_
          refine lv_topi (fun y_179 ey_179 => ?_)
          obtain rfl : x_178 = y_179 := (ey_179.trans (Int32.add_zero x_178)).symm
          refine lv_aload_n hx hb dX3_readItem_51 rfl (lv_at hl 2 rfl) ?_
          refine lv_iload_n hx hb dX3_readItem_52 rfl (lv_at hl 1 rfl) ?_
          refine lv_iload_n hx hb dX3_readItem_53 rfl (lv_at hl 0 rfl) ?_
          refine zc_S (As := [.int 5, .int 0]) (rest := [.ref rd, .int x_178, .ref ri]) ⟨hx, hb, hml, hown, hts⟩ (c_R_leastOf_5_0 l D cI cJ cZ cP cS po  ) (va_cwS 2 hts gX3_readItem_X3_leastOf rfl rfl rfl (by decide +kernel) ⟨Nat.le_of_ble_eq_true rfl, Nat.le_of_ble_eq_true rfl⟩) hK hN (hZ.kept hS) rfl hl.1 rfl (Nat.le_of_ble_eq_true rfl) dX3_readItem_54 ⟨Nat.le_of_ble_eq_true rfl, Nat.le_of_ble_eq_true rfl⟩ (fun r_180 hr_180 => ?_)
          obtain rfl := hr_180
          refine lv_aload_n hx hb dX3_readItem_57 rfl (lv_at hl 2 rfl) ?_
          refine lv_iload_n hx hb dX3_readItem_58 rfl (lv_at hl 1 rfl) ?_
          refine lv_iload_n hx hb dX3_readItem_59 rfl (lv_at hl 0 rfl) ?_
          refine zc_V (As := [.int 5, .int 0]) (rest := [.int 0, .ref rd, .int x_178, .ref ri]) ⟨hx, hb, hml, hown, hts⟩ (c_R_mostOf_5_0 l D cI cJ cZ cP cS po rd ri rl (rz) (rc) (q_174) (q_175) (rt) (ru) hy0 hy1 hy2 hy3 hbq_174.1 hbq_174.2 (by omega) hbq_175.1 hbq_175.2 hy9 hy10 hy11 hy12) (cwV 2 hts gX3_readItem_X3_mostOf rfl rfl rfl (by decide +kernel) ⟨Nat.le_of_ble_eq_true rfl, Nat.le_of_ble_eq_true rfl⟩) hK hN (hZ.kept hS) hP (hP.sub [1] rfl) (va_recv hK hP (ci := 3) (q0 := 1) rfl rfl) rfl hl.1 rfl (Nat.le_of_ble_eq_true rfl) dX3_readItem_60 ⟨Nat.le_of_ble_eq_true rfl, Nat.le_of_ble_eq_true rfl⟩ (fun r_181 hr_181 => ?_)
          obtain rfl := hr_181
          have kc0 : (0 : Int32).toInt = 0 := by decide
          have kc300 : (300 : Int32).toInt = 300 := by decide
          skip
          refine zw_V (As := [.int 0, .int 300]) (rest := [.int x_178, .ref ri]) (wr := [(ri, .inl (cI, 132, .inl (upd fi slot.toNatClampNeg 5)))]) ⟨hx, hb, hml, hown, hts⟩ (c_R_readNumber l D cI cJ cZ cP cS po rd ri rl (rz) (rc) (q_174) (q_175) (rt) (ru) fl (0) (300) hy0 hy1 hy2 hy3 hbq_174.1 hbq_174.2 (by omega) hbq_175.1 hbq_175.2 hy9 hy10 hy11 hy12 H.size) (cwV 2 hts gX3_readItem_X3_readNumber rfl rfl rfl (by decide +kernel) ⟨Nat.le_of_ble_eq_true rfl, Nat.le_of_ble_eq_true rfl⟩) hK hN (hZ.kept hS) hP hD hS hA [1, 2] [0] rfl rfl (by decide) (by decide) (by decide) (va_recv hK hP (ci := 3) (q0 := 1) rfl rfl) rfl hl.1 rfl (Nat.le_of_ble_eq_true rfl) dX3_readItem_63 ⟨Nat.le_of_ble_eq_true rfl, Nat.le_of_ble_eq_true rfl⟩ (fun r_182 u_183 H locs hr_182 hP hD hS => ?_)
          obtain ⟨q_184, q_185⟩ := u_183
          try dsimp only at hr_182
          obtain ⟨hbq_184, hbq_185, hsr_182_0, hsr_182_1, hr_182⟩ := hr_182
          replace hP : va_P D vwCl [(ri, .inl (cI, 132, .inl (upd fi slot.toNatClampNeg 5))), (rd, .inr (3, [.ref ri, .ref rl, .int rz, .int rc, .int q_184, .int q_185, .int rt, .int ru])), (rl, .inl (cI, 160, .inl fl))] H := hP
          replace hD : va_D _ [(ri, .inl (cI, 132, .inl (upd fi slot.toNatClampNeg 5))), (rd, .inr (3, [.ref ri, .ref rl, .int rz, .int rc, .int q_184, .int q_185, .int rt, .int ru])), (rl, .inl (cI, 160, .inl fl))] := hD
          refine va_iast hx hb hK hP hD hS 0 0 rfl rfl (zf_in (by omega) (by omega)) dX3_readItem_66 (fun H locs hP hD hS => ?_)
          replace hP : va_P D vwCl [(ri, .inl (cI, 132, .inl (upd (upd fi slot.toNatClampNeg 5) x_178.toNatClampNeg r_182))), (rd, .inr (3, [.ref ri, .ref rl, .int rz, .int rc, .int q_184, .int q_185, .int rt, .int ru])), (rl, .inl (cI, 160, .inl fl))] H := hP
          replace hD : va_D _ [(ri, .inl (cI, 132, .inl (upd (upd fi slot.toNatClampNeg 5) x_178.toNatClampNeg r_182))), (rd, .inr (3, [.ref ri, .ref rl, .int rz, .int rc, .int q_184, .int q_185, .int rt, .int ru])), (rl, .inl (cI, 160, .inl fl))] := hD
          refine lv_aload_n hx hb dX3_readItem_67 rfl (lv_at hl 2 rfl) ?_
          refine va_get (D := D) (ci := 3) (v := .int q_185) (C := RX3) (T := TX3) (N := 8) hx hb hts hi_X3_readItem_3 hown hK hP 1 rfl rfl 5 (by decide) (hts (.fieldLink RX3 28 "TheLiningsInIt$Reader" "fault" "I") (List.mem_of_getElem? (i := 2) rfl)) (fun _ h9 => h9) rfl dX3_readItem_68 ?_
          refine lv_iconst (v := (-1)) hx hb dX3_readItem_71 (by decide) ?_
          refine lv_icmp_eq (tgt := 76) hx hb dX3_readItem_72 (by decide) (fun c_186 => ?_) (fun c_186 => ?_)
          · have fc_186 : q_185.toInt = (-1) := zf_eq c_186 rfl (by decide)
            refine lv_iinc (v := 1) (lv' := [(3, .int 1), (2, .int 5), (0, .ref rd), (1, .int slot)]) hx hb dX3_readItem_76 hl (k := 0) rfl (by decide) (by decide) rfl (fun ls hl => ?_)
            refine lv_goto (tgt := 20) hx hb dX3_readItem_79 (by decide) ?_
            refine lv_iload_n hx hb dX3_readItem_20 rfl (lv_at hl 0 rfl) ?_
            refine lv_iload_n hx hb dX3_readItem_21 rfl (lv_at hl 1 rfl) ?_
            refine zc_S (As := [.int 5]) (rest := [.int 1]) ⟨hx, hb, hml, hown, hts⟩ (c_R_numbersOf_5 l D cI cJ cZ cP cS po  ) (va_cwS 1 hts gX3_readItem_X3_numbersOf rfl rfl rfl (by decide +kernel) ⟨Nat.le_of_ble_eq_true rfl, Nat.le_of_ble_eq_true rfl⟩) hK hN (hZ.kept hS) rfl hl.1 rfl (Nat.le_of_ble_eq_true rfl) dX3_readItem_22 ⟨Nat.le_of_ble_eq_true rfl, Nat.le_of_ble_eq_true rfl⟩ (fun r_187 hr_187 => ?_)
            obtain rfl := hr_187
            refine lv_icmp_ge (tgt := 82) hx hb dX3_readItem_25 (by decide) (fun c_188 => ?_) (fun c_188 => ?_)
            · refine lv_iload_n hx hb dX3_readItem_82 rfl (lv_at hl 1 rfl) ?_
              refine lv_if_ne (tgt := 101) hx hb dX3_readItem_83 (by decide) (fun c_189 => ?_) (fun c_189 => ?_)
              · refine lv_iload_n hx hb dX3_readItem_101 rfl (lv_at hl 1 rfl) ?_
                refine lv_iconst (v := 3) hx hb dX3_readItem_102 (by decide) ?_
                refine lv_icmp_ne (tgt := 116) hx hb dX3_readItem_103 (by decide) (fun c_190 => ?_) (fun c_190 => ?_)
                · exact W.vret hx hb hr (fun t ht hW => ⟨⟨(q_184, q_185, rt, ru, (upd (upd fi slot.toNatClampNeg 5) x_178.toNatClampNeg r_182)), rfl, ⟨(show 0 ≤ q_184.toInt ∧ q_184.toInt ≤ 160 from hbq_184), (show (-1) ≤ q_185.toInt ∧ q_185.toInt ≤ 160 from hbq_185), (show 0 ≤ rt.toInt ∧ rt.toInt ≤ 40 from ⟨hy9, hy10⟩), (show 0 ≤ ru.toInt ∧ ru.toInt ≤ 8 from ⟨hy11, hy12⟩), (show q_184.toInt ≤ rz.toInt from by omega), (show (q_185.toInt = -1 → zIt (upd (upd fi slot.toNatClampNeg 5) x_178.toNatClampNeg r_182) slot.toInt.toNat) from by (intro h; have e0 : slot.toNatClampNeg = slot.toInt.toNat + 0 := (by show (slot : Int32).toInt.toNat = _; omega); have e1 : x_178.toNatClampNeg = slot.toInt.toNat + 1 := (by show (x_178 : Int32).toInt.toNat = _; omega); have k3 : (5 : Int32).toInt = 5 := (by decide); first | (exfalso; omega) | exact zIt_mk (by simp only [upd]; rw [if_neg (by omega), if_pos (by omega)]) (by simp only [upd]; rw [if_pos (by omega)]) (rfl) (rfl) (by unfold zItv; refine ⟨?_, ?_, ?_, ?_, ?_, ?_, ?_, ?_, ?_, ?_, ?_⟩ <;> (intros; omega)))), (show (∀ j : Nat, j < slot.toInt.toNat → (upd (upd fi slot.toNatClampNeg 5) x_178.toNatClampNeg r_182) j = fi j) from by (intro j hj; have e0 : slot.toNatClampNeg = slot.toInt.toNat + 0 := (by show (slot : Int32).toInt.toNat = _; omega); have e1 : x_178.toNatClampNeg = slot.toInt.toNat + 1 := (by show (x_178 : Int32).toInt.toNat = _; omega); simp only [upd]; rw [if_neg (by omega), if_neg (by omega)])), trivial⟩, by rw [ht]; exact hP.sub (ws' := [(rd, .inr (3, [.ref ri, .ref rl, .int rz, .int rc, .int q_184, .int q_185, .int rt, .int ru])), (rl, .inl (cI, 160, .inl fl)), (ri, .inl (cI, 132, .inl (upd (upd fi slot.toNatClampNeg 5) x_178.toNatClampNeg r_182)))]) [1, 2, 0] rfl, hD.sub (ws' := [(rd, .inr (3, [.ref ri, .ref rl, .int rz, .int rc, .int q_184, .int q_185, .int rt, .int ru])), (rl, .inl (cI, 160, .inl fl)), (ri, .inl (cI, 132, .inl (upd (upd fi slot.toNatClampNeg 5) x_178.toNatClampNeg r_182)))]) [1, 2, 0] (by decide) rfl⟩, hS.F ht⟩) hS.2.2 dX3_readItem_116
                · exact absurd c_190 (by decide)
              · exact absurd c_189 (by decide)
            · exact absurd c_188 (by decide)
          · have fc_186 : q_185.toInt ≠ (-1) := zf_ne c_186 rfl (by decide)
            exact W.vret hx hb hr (fun t ht hW => ⟨⟨(q_184, q_185, rt, ru, (upd (upd fi slot.toNatClampNeg 5) x_178.toNatClampNeg r_182)), rfl, ⟨(show 0 ≤ q_184.toInt ∧ q_184.toInt ≤ 160 from hbq_184), (show (-1) ≤ q_185.toInt ∧ q_185.toInt ≤ 160 from hbq_185), (show 0 ≤ rt.toInt ∧ rt.toInt ≤ 40 from ⟨hy9, hy10⟩), (show 0 ≤ ru.toInt ∧ ru.toInt ≤ 8 from ⟨hy11, hy12⟩), (show q_184.toInt ≤ rz.toInt from by omega), (show (q_185.toInt = -1 → zIt (upd (upd fi slot.toNatClampNeg 5) x_178.toNatClampNeg r_182) slot.toInt.toNat) from by (intro h; have e0 : slot.toNatClampNeg = slot.toInt.toNat + 0 := (by show (slot : Int32).toInt.toNat = _; omega); have e1 : x_178.toNatClampNeg = slot.toInt.toNat + 1 := (by show (x_178 : Int32).toInt.toNat = _; omega); have k3 : (5 : Int32).toInt = 5 := (by decide); first | (exfalso; omega) | exact zIt_mk (by simp only [upd]; rw [if_neg (by omega), if_pos (by omega)]) (by simp only [upd]; rw [if_pos (by omega)]) (rfl) (rfl) (by unfold zItv; refine ⟨?_, ?_, ?_, ?_, ?_, ?_, ?_, ?_, ?_, ?_, ?_⟩ <;> (intros; omega)))), (show (∀ j : Nat, j < slot.toInt.toNat → (upd (upd fi slot.toNatClampNeg 5) x_178.toNatClampNeg r_182) j = fi j) from by (intro j hj; have e0 : slot.toNatClampNeg = slot.toInt.toNat + 0 := (by show (slot : Int32).toInt.toNat = _; omega); have e1 : x_178.toNatClampNeg = slot.toInt.toNat + 1 := (by show (x_178 : Int32).toInt.toNat = _; omega); simp only [upd]; rw [if_neg (by omega), if_neg (by omega)])), trivial⟩, by rw [ht]; exact hP.sub (ws' := [(rd, .inr (3, [.ref ri, .ref rl, .int rz, .int rc, .int q_184, .int q_185, .int rt, .int ru])), (rl, .inl (cI, 160, .inl fl)), (ri, .inl (cI, 132, .inl (upd (upd fi slot.toNatClampNeg 5) x_178.toNatClampNeg r_182)))]) [1, 2, 0] rfl, hD.sub (ws' := [(rd, .inr (3, [.ref ri, .ref rl, .int rz, .int rc, .int q_184, .int q_185, .int rt, .int ru])), (rl, .inl (cI, 160, .inl fl)), (ri, .inl (cI, 132, .inl (upd (upd fi slot.toNatClampNeg 5) x_178.toNatClampNeg r_182)))]) [1, 2, 0] (by decide) rfl⟩, hS.F ht⟩) hS.2.2 dX3_readItem_75
    · have kc6 : (6 : Int32).toInt = 6 := by decide
      refine lv_aload_n hx hb dX3_readItem_11 rfl (lv_at hl 1 rfl) ?_
      refine va_get (D := D) (ci := 3) (v := .ref ri) (C := RX3) (T := TX3) (N := 8) hx hb hts hi_X3_readItem_3 hown hK hP 1 rfl rfl 0 (by decide) (hts (.fieldLink RX3 11 "TheLiningsInIt$Reader" "items" "[I") (List.mem_of_getElem? (i := 1) rfl)) (fun _ h9 => h9) rfl dX3_readItem_12 ?_
      refine lv_iload_n hx hb dX3_readItem_15 rfl (lv_at hl 2 rfl) ?_
      refine lv_iload_n hx hb dX3_readItem_16 rfl (lv_at hl 0 rfl) ?_
      refine va_iast hx hb hK hP hD hS 0 0 rfl rfl (zf_in (by omega) (by omega)) dX3_readItem_17 (fun H locs hP hD hS => ?_)
      replace hP : va_P D vwCl [(ri, .inl (cI, 132, .inl (upd fi slot.toNatClampNeg 6))), (rd, .inr (3, [.ref ri, .ref rl, .int rz, .int rc, .int q_3, .int q_4, .int rt, .int ru])), (rl, .inl (cI, 160, .inl fl))] H := hP
      replace hD : va_D _ [(ri, .inl (cI, 132, .inl (upd fi slot.toNatClampNeg 6))), (rd, .inr (3, [.ref ri, .ref rl, .int rz, .int rc, .int q_3, .int q_4, .int rt, .int ru])), (rl, .inl (cI, 160, .inl fl))] := hD
      refine lv_iconst (v := 0) hx hb dX3_readItem_18 (by decide) ?_
      refine lv_istore_n (lv' := [(3, .int 0), (2, .int 6), (0, .ref rd), (1, .int slot)]) hx hb dX3_readItem_19 rfl hl (by decide) rfl (fun ls hl => ?_)
      refine lv_iload_n hx hb dX3_readItem_20 rfl (lv_at hl 0 rfl) ?_
      refine lv_iload_n hx hb dX3_readItem_21 rfl (lv_at hl 1 rfl) ?_
      refine zc_S (As := [.int 6]) (rest := [.int 0]) ⟨hx, hb, hml, hown, hts⟩ (c_R_numbersOf_6 l D cI cJ cZ cP cS po  ) (va_cwS 1 hts gX3_readItem_X3_numbersOf rfl rfl rfl (by decide +kernel) ⟨Nat.le_of_ble_eq_true rfl, Nat.le_of_ble_eq_true rfl⟩) hK hN (hZ.kept hS) rfl hl.1 rfl (Nat.le_of_ble_eq_true rfl) dX3_readItem_22 ⟨Nat.le_of_ble_eq_true rfl, Nat.le_of_ble_eq_true rfl⟩ (fun r_191 hr_191 => ?_)
      obtain rfl := hr_191
      refine lv_icmp_ge (tgt := 82) hx hb dX3_readItem_25 (by decide) (fun c_192 => ?_) (fun c_192 => ?_)
      · exact absurd c_192 (by decide)
      · refine lv_aload_n hx hb dX3_readItem_28 rfl (lv_at hl 2 rfl) ?_
        refine lv_bipush (v := 32) hx hb dX3_readItem_29 (by decide) ?_
        skip
        refine zw_Vv (As := [.int 32]) (rest := []) (wr := [(ri, .inl (cI, 132, .inl (upd fi slot.toNatClampNeg 6)))]) ⟨hx, hb, hml, hown, hts⟩ (c_R_expect l D cI cJ cZ cP cS po rd ri rl (rz) (rc) (q_3) (q_4) (rt) (ru) fl (32) hy0 hy1 hy2 hy3 hbq_3.1 hbq_3.2 (by omega) hbq_4.1 hbq_4.2 hy9 hy10 hy11 hy12 H.size) (cwV 1 hts gX3_readItem_X3_expect rfl rfl rfl (by decide +kernel) ⟨Nat.le_of_ble_eq_true rfl, Nat.le_of_ble_eq_true rfl⟩) hK hN (hZ.kept hS) hP hD hS hA [1, 2] [0] rfl rfl (by decide) (by decide) (by decide) (va_recv hK hP (ci := 3) (q0 := 1) rfl rfl) rfl hl.1 rfl (Nat.le_of_ble_eq_true rfl) dX3_readItem_31 ⟨Nat.le_of_ble_eq_true rfl, Nat.le_of_ble_eq_true rfl⟩ (fun u_194 H locs hr_193 hP hD hS => ?_)
        obtain ⟨q_195, q_196⟩ := u_194
        try dsimp only at hr_193
        obtain ⟨hbq_195, hbq_196, hsr_193_0, hsr_193_1, hr_193⟩ := hr_193
        replace hP : va_P D vwCl [(ri, .inl (cI, 132, .inl (upd fi slot.toNatClampNeg 6))), (rd, .inr (3, [.ref ri, .ref rl, .int rz, .int rc, .int q_195, .int q_196, .int rt, .int ru])), (rl, .inl (cI, 160, .inl fl))] H := hP
        replace hD : va_D _ [(ri, .inl (cI, 132, .inl (upd fi slot.toNatClampNeg 6))), (rd, .inr (3, [.ref ri, .ref rl, .int rz, .int rc, .int q_195, .int q_196, .int rt, .int ru])), (rl, .inl (cI, 160, .inl fl))] := hD
        refine lv_aload_n hx hb dX3_readItem_34 rfl (lv_at hl 2 rfl) ?_
        refine va_get (D := D) (ci := 3) (v := .int q_196) (C := RX3) (T := TX3) (N := 8) hx hb hts hi_X3_readItem_3 hown hK hP 1 rfl rfl 5 (by decide) (hts (.fieldLink RX3 28 "TheLiningsInIt$Reader" "fault" "I") (List.mem_of_getElem? (i := 2) rfl)) (fun _ h9 => h9) rfl dX3_readItem_35 ?_
        refine lv_iconst (v := (-1)) hx hb dX3_readItem_38 (by decide) ?_
        refine lv_icmp_ne (tgt := 67) hx hb dX3_readItem_39 (by decide) (fun c_197 => ?_) (fun c_197 => ?_)
        · have fc_197 : q_196.toInt ≠ (-1) := zf_ne c_197 rfl (by decide)
          refine lv_aload_n hx hb dX3_readItem_67 rfl (lv_at hl 2 rfl) ?_
          refine va_get (D := D) (ci := 3) (v := .int q_196) (C := RX3) (T := TX3) (N := 8) hx hb hts hi_X3_readItem_3 hown hK hP 1 rfl rfl 5 (by decide) (hts (.fieldLink RX3 28 "TheLiningsInIt$Reader" "fault" "I") (List.mem_of_getElem? (i := 2) rfl)) (fun _ h9 => h9) rfl dX3_readItem_68 ?_
          refine lv_iconst (v := (-1)) hx hb dX3_readItem_71 (by decide) ?_
          refine lv_icmp_eq (tgt := 76) hx hb dX3_readItem_72 (by decide) (fun c_198 => ?_) (fun c_198 => ?_)
          · exfalso; have fc_198 : q_196.toInt = (-1) := zf_eq c_198 rfl (by decide); omega
          · have fc_198 : q_196.toInt ≠ (-1) := zf_ne c_198 rfl (by decide)
            exact W.vret hx hb hr (fun t ht hW => ⟨⟨(q_195, q_196, rt, ru, (upd fi slot.toNatClampNeg 6)), rfl, ⟨(show 0 ≤ q_195.toInt ∧ q_195.toInt ≤ 160 from hbq_195), (show (-1) ≤ q_196.toInt ∧ q_196.toInt ≤ 160 from hbq_196), (show 0 ≤ rt.toInt ∧ rt.toInt ≤ 40 from ⟨hy9, hy10⟩), (show 0 ≤ ru.toInt ∧ ru.toInt ≤ 8 from ⟨hy11, hy12⟩), (show q_195.toInt ≤ rz.toInt from by omega), (show (q_196.toInt = -1 → zIt (upd fi slot.toNatClampNeg 6) slot.toInt.toNat) from by (intro h; have e0 : slot.toNatClampNeg = slot.toInt.toNat + 0 := (by show (slot : Int32).toInt.toNat = _; omega); have k2 : (6 : Int32).toInt = 6 := (by decide); first | (exfalso; omega) | exact zIt_mk (by simp only [upd]; rw [if_pos (by omega)]) (rfl) (rfl) (rfl) (by unfold zItv; refine ⟨?_, ?_, ?_, ?_, ?_, ?_, ?_, ?_, ?_, ?_, ?_⟩ <;> (intros; omega)))), (show (∀ j : Nat, j < slot.toInt.toNat → (upd fi slot.toNatClampNeg 6) j = fi j) from by (intro j hj; have e0 : slot.toNatClampNeg = slot.toInt.toNat + 0 := (by show (slot : Int32).toInt.toNat = _; omega); simp only [upd]; rw [if_neg (by omega)])), trivial⟩, by rw [ht]; exact hP.sub (ws' := [(rd, .inr (3, [.ref ri, .ref rl, .int rz, .int rc, .int q_195, .int q_196, .int rt, .int ru])), (rl, .inl (cI, 160, .inl fl)), (ri, .inl (cI, 132, .inl (upd fi slot.toNatClampNeg 6)))]) [1, 2, 0] rfl, hD.sub (ws' := [(rd, .inr (3, [.ref ri, .ref rl, .int rz, .int rc, .int q_195, .int q_196, .int rt, .int ru])), (rl, .inl (cI, 160, .inl fl)), (ri, .inl (cI, 132, .inl (upd fi slot.toNatClampNeg 6)))]) [1, 2, 0] (by decide) rfl⟩, hS.F ht⟩) hS.2.2 dX3_readItem_75
        · have fc_197 : q_196.toInt = (-1) := zf_eq c_197 rfl (by decide)
          refine lv_aload_n hx hb dX3_readItem_42 rfl (lv_at hl 2 rfl) ?_
          refine va_get (D := D) (ci := 3) (v := .ref ri) (C := RX3) (T := TX3) (N := 8) hx hb hts hi_X3_readItem_3 hown hK hP 1 rfl rfl 0 (by decide) (hts (.fieldLink RX3 11 "TheLiningsInIt$Reader" "items" "[I") (List.mem_of_getElem? (i := 1) rfl)) (fun _ h9 => h9) rfl dX3_readItem_43 ?_
          refine lv_iload_n hx hb dX3_readItem_46 rfl (lv_at hl 3 rfl) ?_
          refine lv_iconst (v := 1) hx hb dX3_readItem_47 (by decide) ?_
          refine lv_iadd hx hb dX3_readItem_48 ?_
          refine lv_topi (fun x_199 ex_199 => ?_)
          have qx_199 : x_199.toInt = slot.toInt + 1 := by rw [ex_199]; exact zf_add rfl (by decide) (by omega) (by omega)
          refine lv_iload_n hx hb dX3_readItem_49 rfl (lv_at hl 0 rfl) ?_
          refine lv_iadd hx hb dX3_readItem_50 ?_
          refine lv_topi (fun y_200 ey_200 => ?_)
          obtain rfl : x_199 = y_200 := (ey_200.trans (Int32.add_zero x_199)).symm
          refine lv_aload_n hx hb dX3_readItem_51 rfl (lv_at hl 2 rfl) ?_
          refine lv_iload_n hx hb dX3_readItem_52 rfl (lv_at hl 1 rfl) ?_
          refine lv_iload_n hx hb dX3_readItem_53 rfl (lv_at hl 0 rfl) ?_
          refine zc_S (As := [.int 6, .int 0]) (rest := [.ref rd, .int x_199, .ref ri]) ⟨hx, hb, hml, hown, hts⟩ (c_R_leastOf_6_0 l D cI cJ cZ cP cS po  ) (va_cwS 2 hts gX3_readItem_X3_leastOf rfl rfl rfl (by decide +kernel) ⟨Nat.le_of_ble_eq_true rfl, Nat.le_of_ble_eq_true rfl⟩) hK hN (hZ.kept hS) rfl hl.1 rfl (Nat.le_of_ble_eq_true rfl) dX3_readItem_54 ⟨Nat.le_of_ble_eq_true rfl, Nat.le_of_ble_eq_true rfl⟩ (fun r_201 hr_201 => ?_)
          obtain rfl := hr_201
          refine lv_aload_n hx hb dX3_readItem_57 rfl (lv_at hl 2 rfl) ?_
          refine lv_iload_n hx hb dX3_readItem_58 rfl (lv_at hl 1 rfl) ?_
          refine lv_iload_n hx hb dX3_readItem_59 rfl (lv_at hl 0 rfl) ?_
          refine zc_V (As := [.int 6, .int 0]) (rest := [.int 0, .ref rd, .int x_199, .ref ri]) ⟨hx, hb, hml, hown, hts⟩ (c_R_mostOf_6_0 l D cI cJ cZ cP cS po rd ri rl (rz) (rc) (q_195) (q_196) (rt) (ru) hy0 hy1 hy2 hy3 hbq_195.1 hbq_195.2 (by omega) hbq_196.1 hbq_196.2 hy9 hy10 hy11 hy12) (cwV 2 hts gX3_readItem_X3_mostOf rfl rfl rfl (by decide +kernel) ⟨Nat.le_of_ble_eq_true rfl, Nat.le_of_ble_eq_true rfl⟩) hK hN (hZ.kept hS) hP (hP.sub [1] rfl) (va_recv hK hP (ci := 3) (q0 := 1) rfl rfl) rfl hl.1 rfl (Nat.le_of_ble_eq_true rfl) dX3_readItem_60 ⟨Nat.le_of_ble_eq_true rfl, Nat.le_of_ble_eq_true rfl⟩ (fun r_202 hr_202 => ?_)
          obtain rfl := hr_202
          have kc0 : (0 : Int32).toInt = 0 := by decide
          have kc9 : (9 : Int32).toInt = 9 := by decide
          skip
          refine zw_V (As := [.int 0, .int 9]) (rest := [.int x_199, .ref ri]) (wr := [(ri, .inl (cI, 132, .inl (upd fi slot.toNatClampNeg 6)))]) ⟨hx, hb, hml, hown, hts⟩ (c_R_readNumber l D cI cJ cZ cP cS po rd ri rl (rz) (rc) (q_195) (q_196) (rt) (ru) fl (0) (9) hy0 hy1 hy2 hy3 hbq_195.1 hbq_195.2 (by omega) hbq_196.1 hbq_196.2 hy9 hy10 hy11 hy12 H.size) (cwV 2 hts gX3_readItem_X3_readNumber rfl rfl rfl (by decide +kernel) ⟨Nat.le_of_ble_eq_true rfl, Nat.le_of_ble_eq_true rfl⟩) hK hN (hZ.kept hS) hP hD hS hA [1, 2] [0] rfl rfl (by decide) (by decide) (by decide) (va_recv hK hP (ci := 3) (q0 := 1) rfl rfl) rfl hl.1 rfl (Nat.le_of_ble_eq_true rfl) dX3_readItem_63 ⟨Nat.le_of_ble_eq_true rfl, Nat.le_of_ble_eq_true rfl⟩ (fun r_203 u_204 H locs hr_203 hP hD hS => ?_)
          obtain ⟨q_205, q_206⟩ := u_204
          try dsimp only at hr_203
          obtain ⟨hbq_205, hbq_206, hsr_203_0, hsr_203_1, hr_203⟩ := hr_203
          replace hP : va_P D vwCl [(ri, .inl (cI, 132, .inl (upd fi slot.toNatClampNeg 6))), (rd, .inr (3, [.ref ri, .ref rl, .int rz, .int rc, .int q_205, .int q_206, .int rt, .int ru])), (rl, .inl (cI, 160, .inl fl))] H := hP
          replace hD : va_D _ [(ri, .inl (cI, 132, .inl (upd fi slot.toNatClampNeg 6))), (rd, .inr (3, [.ref ri, .ref rl, .int rz, .int rc, .int q_205, .int q_206, .int rt, .int ru])), (rl, .inl (cI, 160, .inl fl))] := hD
          refine va_iast hx hb hK hP hD hS 0 0 rfl rfl (zf_in (by omega) (by omega)) dX3_readItem_66 (fun H locs hP hD hS => ?_)
          replace hP : va_P D vwCl [(ri, .inl (cI, 132, .inl (upd (upd fi slot.toNatClampNeg 6) x_199.toNatClampNeg r_203))), (rd, .inr (3, [.ref ri, .ref rl, .int rz, .int rc, .int q_205, .int q_206, .int rt, .int ru])), (rl, .inl (cI, 160, .inl fl))] H := hP
          replace hD : va_D _ [(ri, .inl (cI, 132, .inl (upd (upd fi slot.toNatClampNeg 6) x_199.toNatClampNeg r_203))), (rd, .inr (3, [.ref ri, .ref rl, .int rz, .int rc, .int q_205, .int q_206, .int rt, .int ru])), (rl, .inl (cI, 160, .inl fl))] := hD
          refine lv_aload_n hx hb dX3_readItem_67 rfl (lv_at hl 2 rfl) ?_
          refine va_get (D := D) (ci := 3) (v := .int q_206) (C := RX3) (T := TX3) (N := 8) hx hb hts hi_X3_readItem_3 hown hK hP 1 rfl rfl 5 (by decide) (hts (.fieldLink RX3 28 "TheLiningsInIt$Reader" "fault" "I") (List.mem_of_getElem? (i := 2) rfl)) (fun _ h9 => h9) rfl dX3_readItem_68 ?_
          refine lv_iconst (v := (-1)) hx hb dX3_readItem_71 (by decide) ?_
          refine lv_icmp_eq (tgt := 76) hx hb dX3_readItem_72 (by decide) (fun c_207 => ?_) (fun c_207 => ?_)
          · have fc_207 : q_206.toInt = (-1) := zf_eq c_207 rfl (by decide)
            refine lv_iinc (v := 1) (lv' := [(3, .int 1), (2, .int 6), (0, .ref rd), (1, .int slot)]) hx hb dX3_readItem_76 hl (k := 0) rfl (by decide) (by decide) rfl (fun ls hl => ?_)
            refine lv_goto (tgt := 20) hx hb dX3_readItem_79 (by decide) ?_
            refine lv_iload_n hx hb dX3_readItem_20 rfl (lv_at hl 0 rfl) ?_
            refine lv_iload_n hx hb dX3_readItem_21 rfl (lv_at hl 1 rfl) ?_
            refine zc_S (As := [.int 6]) (rest := [.int 1]) ⟨hx, hb, hml, hown, hts⟩ (c_R_numbersOf_6 l D cI cJ cZ cP cS po  ) (va_cwS 1 hts gX3_readItem_X3_numbersOf rfl rfl rfl (by decide +kernel) ⟨Nat.le_of_ble_eq_true rfl, Nat.le_of_ble_eq_true rfl⟩) hK hN (hZ.kept hS) rfl hl.1 rfl (Nat.le_of_ble_eq_true rfl) dX3_readItem_22 ⟨Nat.le_of_ble_eq_true rfl, Nat.le_of_ble_eq_true rfl⟩ (fun r_208 hr_208 => ?_)
            obtain rfl := hr_208
            refine lv_icmp_ge (tgt := 82) hx hb dX3_readItem_25 (by decide) (fun c_209 => ?_) (fun c_209 => ?_)
            · refine lv_iload_n hx hb dX3_readItem_82 rfl (lv_at hl 1 rfl) ?_
              refine lv_if_ne (tgt := 101) hx hb dX3_readItem_83 (by decide) (fun c_210 => ?_) (fun c_210 => ?_)
              · refine lv_iload_n hx hb dX3_readItem_101 rfl (lv_at hl 1 rfl) ?_
                refine lv_iconst (v := 3) hx hb dX3_readItem_102 (by decide) ?_
                refine lv_icmp_ne (tgt := 116) hx hb dX3_readItem_103 (by decide) (fun c_211 => ?_) (fun c_211 => ?_)
                · exact W.vret hx hb hr (fun t ht hW => ⟨⟨(q_205, q_206, rt, ru, (upd (upd fi slot.toNatClampNeg 6) x_199.toNatClampNeg r_203)), rfl, ⟨(show 0 ≤ q_205.toInt ∧ q_205.toInt ≤ 160 from hbq_205), (show (-1) ≤ q_206.toInt ∧ q_206.toInt ≤ 160 from hbq_206), (show 0 ≤ rt.toInt ∧ rt.toInt ≤ 40 from ⟨hy9, hy10⟩), (show 0 ≤ ru.toInt ∧ ru.toInt ≤ 8 from ⟨hy11, hy12⟩), (show q_205.toInt ≤ rz.toInt from by omega), (show (q_206.toInt = -1 → zIt (upd (upd fi slot.toNatClampNeg 6) x_199.toNatClampNeg r_203) slot.toInt.toNat) from by (intro h; have e0 : slot.toNatClampNeg = slot.toInt.toNat + 0 := (by show (slot : Int32).toInt.toNat = _; omega); have e1 : x_199.toNatClampNeg = slot.toInt.toNat + 1 := (by show (x_199 : Int32).toInt.toNat = _; omega); have k3 : (6 : Int32).toInt = 6 := (by decide); first | (exfalso; omega) | exact zIt_mk (by simp only [upd]; rw [if_neg (by omega), if_pos (by omega)]) (by simp only [upd]; rw [if_pos (by omega)]) (rfl) (rfl) (by unfold zItv; refine ⟨?_, ?_, ?_, ?_, ?_, ?_, ?_, ?_, ?_, ?_, ?_⟩ <;> (intros; omega)))), (show (∀ j : Nat, j < slot.toInt.toNat → (upd (upd fi slot.toNatClampNeg 6) x_199.toNatClampNeg r_203) j = fi j) from by (intro j hj; have e0 : slot.toNatClampNeg = slot.toInt.toNat + 0 := (by show (slot : Int32).toInt.toNat = _; omega); have e1 : x_199.toNatClampNeg = slot.toInt.toNat + 1 := (by show (x_199 : Int32).toInt.toNat = _; omega); simp only [upd]; rw [if_neg (by omega), if_neg (by omega)])), trivial⟩, by rw [ht]; exact hP.sub (ws' := [(rd, .inr (3, [.ref ri, .ref rl, .int rz, .int rc, .int q_205, .int q_206, .int rt, .int ru])), (rl, .inl (cI, 160, .inl fl)), (ri, .inl (cI, 132, .inl (upd (upd fi slot.toNatClampNeg 6) x_199.toNatClampNeg r_203)))]) [1, 2, 0] rfl, hD.sub (ws' := [(rd, .inr (3, [.ref ri, .ref rl, .int rz, .int rc, .int q_205, .int q_206, .int rt, .int ru])), (rl, .inl (cI, 160, .inl fl)), (ri, .inl (cI, 132, .inl (upd (upd fi slot.toNatClampNeg 6) x_199.toNatClampNeg r_203)))]) [1, 2, 0] (by decide) rfl⟩, hS.F ht⟩) hS.2.2 dX3_readItem_116
                · exact absurd c_211 (by decide)
              · exact absurd c_210 (by decide)
            · exact absurd c_209 (by decide)
          · have fc_207 : q_206.toInt ≠ (-1) := zf_ne c_207 rfl (by decide)
            exact W.vret hx hb hr (fun t ht hW => ⟨⟨(q_205, q_206, rt, ru, (upd (upd fi slot.toNatClampNeg 6) x_199.toNatClampNeg r_203)), rfl, ⟨(show 0 ≤ q_205.toInt ∧ q_205.toInt ≤ 160 from hbq_205), (show (-1) ≤ q_206.toInt ∧ q_206.toInt ≤ 160 from hbq_206), (show 0 ≤ rt.toInt ∧ rt.toInt ≤ 40 from ⟨hy9, hy10⟩), (show 0 ≤ ru.toInt ∧ ru.toInt ≤ 8 from ⟨hy11, hy12⟩), (show q_205.toInt ≤ rz.toInt from by omega), (show (q_206.toInt = -1 → zIt (upd (upd fi slot.toNatClampNeg 6) x_199.toNatClampNeg r_203) slot.toInt.toNat) from by (intro h; have e0 : slot.toNatClampNeg = slot.toInt.toNat + 0 := (by show (slot : Int32).toInt.toNat = _; omega); have e1 : x_199.toNatClampNeg = slot.toInt.toNat + 1 := (by show (x_199 : Int32).toInt.toNat = _; omega); have k3 : (6 : Int32).toInt = 6 := (by decide); first | (exfalso; omega) | exact zIt_mk (by simp only [upd]; rw [if_neg (by omega), if_pos (by omega)]) (by simp only [upd]; rw [if_pos (by omega)]) (rfl) (rfl) (by unfold zItv; refine ⟨?_, ?_, ?_, ?_, ?_, ?_, ?_, ?_, ?_, ?_, ?_⟩ <;> (intros; omega)))), (show (∀ j : Nat, j < slot.toInt.toNat → (upd (upd fi slot.toNatClampNeg 6) x_199.toNatClampNeg r_203) j = fi j) from by (intro j hj; have e0 : slot.toNatClampNeg = slot.toInt.toNat + 0 := (by show (slot : Int32).toInt.toNat = _; omega); have e1 : x_199.toNatClampNeg = slot.toInt.toNat + 1 := (by show (x_199 : Int32).toInt.toNat = _; omega); simp only [upd]; rw [if_neg (by omega), if_neg (by omega)])), trivial⟩, by rw [ht]; exact hP.sub (ws' := [(rd, .inr (3, [.ref ri, .ref rl, .int rz, .int rc, .int q_205, .int q_206, .int rt, .int ru])), (rl, .inl (cI, 160, .inl fl)), (ri, .inl (cI, 132, .inl (upd (upd fi slot.toNatClampNeg 6) x_199.toNatClampNeg r_203)))]) [1, 2, 0] rfl, hD.sub (ws' := [(rd, .inr (3, [.ref ri, .ref rl, .int rz, .int rc, .int q_205, .int q_206, .int rt, .int ru])), (rl, .inl (cI, 160, .inl fl)), (ri, .inl (cI, 132, .inl (upd (upd fi slot.toNatClampNeg 6) x_199.toNatClampNeg r_203)))]) [1, 2, 0] (by decide) rfl⟩, hS.F ht⟩) hS.2.2 dX3_readItem_75
    · have kc7 : (7 : Int32).toInt = 7 := by decide
      refine lv_aload_n hx hb dX3_readItem_11 rfl (lv_at hl 1 rfl) ?_
      refine va_get (D := D) (ci := 3) (v := .ref ri) (C := RX3) (T := TX3) (N := 8) hx hb hts hi_X3_readItem_3 hown hK hP 1 rfl rfl 0 (by decide) (hts (.fieldLink RX3 11 "TheLiningsInIt$Reader" "items" "[I") (List.mem_of_getElem? (i := 1) rfl)) (fun _ h9 => h9) rfl dX3_readItem_12 ?_
      refine lv_iload_n hx hb dX3_readItem_15 rfl (lv_at hl 2 rfl) ?_
      refine lv_iload_n hx hb dX3_readItem_16 rfl (lv_at hl 0 rfl) ?_
      refine va_iast hx hb hK hP hD hS 0 0 rfl rfl (zf_in (by omega) (by omega)) dX3_readItem_17 (fun H locs hP hD hS => ?_)
      replace hP : va_P D vwCl [(ri, .inl (cI, 132, .inl (upd fi slot.toNatClampNeg 7))), (rd, .inr (3, [.ref ri, .ref rl, .int rz, .int rc, .int q_3, .int q_4, .int rt, .int ru])), (rl, .inl (cI, 160, .inl fl))] H := hP
      replace hD : va_D _ [(ri, .inl (cI, 132, .inl (upd fi slot.toNatClampNeg 7))), (rd, .inr (3, [.ref ri, .ref rl, .int rz, .int rc, .int q_3, .int q_4, .int rt, .int ru])), (rl, .inl (cI, 160, .inl fl))] := hD
      refine lv_iconst (v := 0) hx hb dX3_readItem_18 (by decide) ?_
      refine lv_istore_n (lv' := [(3, .int 0), (2, .int 7), (0, .ref rd), (1, .int slot)]) hx hb dX3_readItem_19 rfl hl (by decide) rfl (fun ls hl => ?_)
      refine lv_iload_n hx hb dX3_readItem_20 rfl (lv_at hl 0 rfl) ?_
      refine lv_iload_n hx hb dX3_readItem_21 rfl (lv_at hl 1 rfl) ?_
      refine zc_S (As := [.int 7]) (rest := [.int 0]) ⟨hx, hb, hml, hown, hts⟩ (c_R_numbersOf_7 l D cI cJ cZ cP cS po  ) (va_cwS 1 hts gX3_readItem_X3_numbersOf rfl rfl rfl (by decide +kernel) ⟨Nat.le_of_ble_eq_true rfl, Nat.le_of_ble_eq_true rfl⟩) hK hN (hZ.kept hS) rfl hl.1 rfl (Nat.le_of_ble_eq_true rfl) dX3_readItem_22 ⟨Nat.le_of_ble_eq_true rfl, Nat.le_of_ble_eq_true rfl⟩ (fun r_212 hr_212 => ?_)
      obtain rfl := hr_212
      refine lv_icmp_ge (tgt := 82) hx hb dX3_readItem_25 (by decide) (fun c_213 => ?_) (fun c_213 => ?_)
      · exact absurd c_213 (by decide)
      · refine lv_aload_n hx hb dX3_readItem_28 rfl (lv_at hl 2 rfl) ?_
        refine lv_bipush (v := 32) hx hb dX3_readItem_29 (by decide) ?_
        skip
        refine zw_Vv (As := [.int 32]) (rest := []) (wr := [(ri, .inl (cI, 132, .inl (upd fi slot.toNatClampNeg 7)))]) ⟨hx, hb, hml, hown, hts⟩ (c_R_expect l D cI cJ cZ cP cS po rd ri rl (rz) (rc) (q_3) (q_4) (rt) (ru) fl (32) hy0 hy1 hy2 hy3 hbq_3.1 hbq_3.2 (by omega) hbq_4.1 hbq_4.2 hy9 hy10 hy11 hy12 H.size) (cwV 1 hts gX3_readItem_X3_expect rfl rfl rfl (by decide +kernel) ⟨Nat.le_of_ble_eq_true rfl, Nat.le_of_ble_eq_true rfl⟩) hK hN (hZ.kept hS) hP hD hS hA [1, 2] [0] rfl rfl (by decide) (by decide) (by decide) (va_recv hK hP (ci := 3) (q0 := 1) rfl rfl) rfl hl.1 rfl (Nat.le_of_ble_eq_true rfl) dX3_readItem_31 ⟨Nat.le_of_ble_eq_true rfl, Nat.le_of_ble_eq_true rfl⟩ (fun u_215 H locs hr_214 hP hD hS => ?_)
        obtain ⟨q_216, q_217⟩ := u_215
        try dsimp only at hr_214
        obtain ⟨hbq_216, hbq_217, hsr_214_0, hsr_214_1, hr_214⟩ := hr_214
        replace hP : va_P D vwCl [(ri, .inl (cI, 132, .inl (upd fi slot.toNatClampNeg 7))), (rd, .inr (3, [.ref ri, .ref rl, .int rz, .int rc, .int q_216, .int q_217, .int rt, .int ru])), (rl, .inl (cI, 160, .inl fl))] H := hP
        replace hD : va_D _ [(ri, .inl (cI, 132, .inl (upd fi slot.toNatClampNeg 7))), (rd, .inr (3, [.ref ri, .ref rl, .int rz, .int rc, .int q_216, .int q_217, .int rt, .int ru])), (rl, .inl (cI, 160, .inl fl))] := hD
        refine lv_aload_n hx hb dX3_readItem_34 rfl (lv_at hl 2 rfl) ?_
        refine va_get (D := D) (ci := 3) (v := .int q_217) (C := RX3) (T := TX3) (N := 8) hx hb hts hi_X3_readItem_3 hown hK hP 1 rfl rfl 5 (by decide) (hts (.fieldLink RX3 28 "TheLiningsInIt$Reader" "fault" "I") (List.mem_of_getElem? (i := 2) rfl)) (fun _ h9 => h9) rfl dX3_readItem_35 ?_
        refine lv_iconst (v := (-1)) hx hb dX3_readItem_38 (by decide) ?_
        refine lv_icmp_ne (tgt := 67) hx hb dX3_readItem_39 (by decide) (fun c_218 => ?_) (fun c_218 => ?_)
        · have fc_218 : q_217.toInt ≠ (-1) := zf_ne c_218 rfl (by decide)
          refine lv_aload_n hx hb dX3_readItem_67 rfl (lv_at hl 2 rfl) ?_
          refine va_get (D := D) (ci := 3) (v := .int q_217) (C := RX3) (T := TX3) (N := 8) hx hb hts hi_X3_readItem_3 hown hK hP 1 rfl rfl 5 (by decide) (hts (.fieldLink RX3 28 "TheLiningsInIt$Reader" "fault" "I") (List.mem_of_getElem? (i := 2) rfl)) (fun _ h9 => h9) rfl dX3_readItem_68 ?_
          refine lv_iconst (v := (-1)) hx hb dX3_readItem_71 (by decide) ?_
          refine lv_icmp_eq (tgt := 76) hx hb dX3_readItem_72 (by decide) (fun c_219 => ?_) (fun c_219 => ?_)
          · exfalso; have fc_219 : q_217.toInt = (-1) := zf_eq c_219 rfl (by decide); omega
          · have fc_219 : q_217.toInt ≠ (-1) := zf_ne c_219 rfl (by decide)
            exact W.vret hx hb hr (fun t ht hW => ⟨⟨(q_216, q_217, rt, ru, (upd fi slot.toNatClampNeg 7)), rfl, ⟨(show 0 ≤ q_216.toInt ∧ q_216.toInt ≤ 160 from hbq_216), (show (-1) ≤ q_217.toInt ∧ q_217.toInt ≤ 160 from hbq_217), (show 0 ≤ rt.toInt ∧ rt.toInt ≤ 40 from ⟨hy9, hy10⟩), (show 0 ≤ ru.toInt ∧ ru.toInt ≤ 8 from ⟨hy11, hy12⟩), (show q_216.toInt ≤ rz.toInt from by omega), (show (q_217.toInt = -1 → zIt (upd fi slot.toNatClampNeg 7) slot.toInt.toNat) from by (intro h; have e0 : slot.toNatClampNeg = slot.toInt.toNat + 0 := (by show (slot : Int32).toInt.toNat = _; omega); have k2 : (7 : Int32).toInt = 7 := (by decide); first | (exfalso; omega) | exact zIt_mk (by simp only [upd]; rw [if_pos (by omega)]) (rfl) (rfl) (rfl) (by unfold zItv; refine ⟨?_, ?_, ?_, ?_, ?_, ?_, ?_, ?_, ?_, ?_, ?_⟩ <;> (intros; omega)))), (show (∀ j : Nat, j < slot.toInt.toNat → (upd fi slot.toNatClampNeg 7) j = fi j) from by (intro j hj; have e0 : slot.toNatClampNeg = slot.toInt.toNat + 0 := (by show (slot : Int32).toInt.toNat = _; omega); simp only [upd]; rw [if_neg (by omega)])), trivial⟩, by rw [ht]; exact hP.sub (ws' := [(rd, .inr (3, [.ref ri, .ref rl, .int rz, .int rc, .int q_216, .int q_217, .int rt, .int ru])), (rl, .inl (cI, 160, .inl fl)), (ri, .inl (cI, 132, .inl (upd fi slot.toNatClampNeg 7)))]) [1, 2, 0] rfl, hD.sub (ws' := [(rd, .inr (3, [.ref ri, .ref rl, .int rz, .int rc, .int q_216, .int q_217, .int rt, .int ru])), (rl, .inl (cI, 160, .inl fl)), (ri, .inl (cI, 132, .inl (upd fi slot.toNatClampNeg 7)))]) [1, 2, 0] (by decide) rfl⟩, hS.F ht⟩) hS.2.2 dX3_readItem_75
        · have fc_218 : q_217.toInt = (-1) := zf_eq c_218 rfl (by decide)
          refine lv_aload_n hx hb dX3_readItem_42 rfl (lv_at hl 2 rfl) ?_
          refine va_get (D := D) (ci := 3) (v := .ref ri) (C := RX3) (T := TX3) (N := 8) hx hb hts hi_X3_readItem_3 hown hK hP 1 rfl rfl 0 (by decide) (hts (.fieldLink RX3 11 "TheLiningsInIt$Reader" "items" "[I") (List.mem_of_getElem? (i := 1) rfl)) (fun _ h9 => h9) rfl dX3_readItem_43 ?_
          refine lv_iload_n hx hb dX3_readItem_46 rfl (lv_at hl 3 rfl) ?_
          refine lv_iconst (v := 1) hx hb dX3_readItem_47 (by decide) ?_
          refine lv_iadd hx hb dX3_readItem_48 ?_
          refine lv_topi (fun x_220 ex_220 => ?_)
          have qx_220 : x_220.toInt = slot.toInt + 1 := by rw [ex_220]; exact zf_add rfl (by decide) (by omega) (by omega)
          refine lv_iload_n hx hb dX3_readItem_49 rfl (lv_at hl 0 rfl) ?_
          refine lv_iadd hx hb dX3_readItem_50 ?_
          refine lv_topi (fun y_221 ey_221 => ?_)
          obtain rfl : x_220 = y_221 := (ey_221.trans (Int32.add_zero x_220)).symm
          refine lv_aload_n hx hb dX3_readItem_51 rfl (lv_at hl 2 rfl) ?_
          refine lv_iload_n hx hb dX3_readItem_52 rfl (lv_at hl 1 rfl) ?_
          refine lv_iload_n hx hb dX3_readItem_53 rfl (lv_at hl 0 rfl) ?_
          refine zc_S (As := [.int 7, .int 0]) (rest := [.ref rd, .int x_220, .ref ri]) ⟨hx, hb, hml, hown, hts⟩ (c_R_leastOf_7_0 l D cI cJ cZ cP cS po  ) (va_cwS 2 hts gX3_readItem_X3_leastOf rfl rfl rfl (by decide +kernel) ⟨Nat.le_of_ble_eq_true rfl, Nat.le_of_ble_eq_true rfl⟩) hK hN (hZ.kept hS) rfl hl.1 rfl (Nat.le_of_ble_eq_true rfl) dX3_readItem_54 ⟨Nat.le_of_ble_eq_true rfl, Nat.le_of_ble_eq_true rfl⟩ (fun r_222 hr_222 => ?_)
          obtain rfl := hr_222
          refine lv_aload_n hx hb dX3_readItem_57 rfl (lv_at hl 2 rfl) ?_
          refine lv_iload_n hx hb dX3_readItem_58 rfl (lv_at hl 1 rfl) ?_
          refine lv_iload_n hx hb dX3_readItem_59 rfl (lv_at hl 0 rfl) ?_
          refine zc_V (As := [.int 7, .int 0]) (rest := [.int 1, .ref rd, .int x_220, .ref ri]) ⟨hx, hb, hml, hown, hts⟩ (c_R_mostOf_7_0 l D cI cJ cZ cP cS po rd ri rl (rz) (rc) (q_216) (q_217) (rt) (ru) hy0 hy1 hy2 hy3 hbq_216.1 hbq_216.2 (by omega) hbq_217.1 hbq_217.2 hy9 hy10 hy11 hy12) (cwV 2 hts gX3_readItem_X3_mostOf rfl rfl rfl (by decide +kernel) ⟨Nat.le_of_ble_eq_true rfl, Nat.le_of_ble_eq_true rfl⟩) hK hN (hZ.kept hS) hP (hP.sub [1] rfl) (va_recv hK hP (ci := 3) (q0 := 1) rfl rfl) rfl hl.1 rfl (Nat.le_of_ble_eq_true rfl) dX3_readItem_60 ⟨Nat.le_of_ble_eq_true rfl, Nat.le_of_ble_eq_true rfl⟩ (fun r_223 hr_223 => ?_)
          obtain rfl := hr_223
          have kc1 : (1 : Int32).toInt = 1 := by decide
          have kc9 : (9 : Int32).toInt = 9 := by decide
          skip
          refine zw_V (As := [.int 1, .int 9]) (rest := [.int x_220, .ref ri]) (wr := [(ri, .inl (cI, 132, .inl (upd fi slot.toNatClampNeg 7)))]) ⟨hx, hb, hml, hown, hts⟩ (c_R_readNumber l D cI cJ cZ cP cS po rd ri rl (rz) (rc) (q_216) (q_217) (rt) (ru) fl (1) (9) hy0 hy1 hy2 hy3 hbq_216.1 hbq_216.2 (by omega) hbq_217.1 hbq_217.2 hy9 hy10 hy11 hy12 H.size) (cwV 2 hts gX3_readItem_X3_readNumber rfl rfl rfl (by decide +kernel) ⟨Nat.le_of_ble_eq_true rfl, Nat.le_of_ble_eq_true rfl⟩) hK hN (hZ.kept hS) hP hD hS hA [1, 2] [0] rfl rfl (by decide) (by decide) (by decide) (va_recv hK hP (ci := 3) (q0 := 1) rfl rfl) rfl hl.1 rfl (Nat.le_of_ble_eq_true rfl) dX3_readItem_63 ⟨Nat.le_of_ble_eq_true rfl, Nat.le_of_ble_eq_true rfl⟩ (fun r_224 u_225 H locs hr_224 hP hD hS => ?_)
          obtain ⟨q_226, q_227⟩ := u_225
          try dsimp only at hr_224
          obtain ⟨hbq_226, hbq_227, hsr_224_0, hsr_224_1, hr_224⟩ := hr_224
          replace hP : va_P D vwCl [(ri, .inl (cI, 132, .inl (upd fi slot.toNatClampNeg 7))), (rd, .inr (3, [.ref ri, .ref rl, .int rz, .int rc, .int q_226, .int q_227, .int rt, .int ru])), (rl, .inl (cI, 160, .inl fl))] H := hP
          replace hD : va_D _ [(ri, .inl (cI, 132, .inl (upd fi slot.toNatClampNeg 7))), (rd, .inr (3, [.ref ri, .ref rl, .int rz, .int rc, .int q_226, .int q_227, .int rt, .int ru])), (rl, .inl (cI, 160, .inl fl))] := hD
          refine va_iast hx hb hK hP hD hS 0 0 rfl rfl (zf_in (by omega) (by omega)) dX3_readItem_66 (fun H locs hP hD hS => ?_)
          replace hP : va_P D vwCl [(ri, .inl (cI, 132, .inl (upd (upd fi slot.toNatClampNeg 7) x_220.toNatClampNeg r_224))), (rd, .inr (3, [.ref ri, .ref rl, .int rz, .int rc, .int q_226, .int q_227, .int rt, .int ru])), (rl, .inl (cI, 160, .inl fl))] H := hP
          replace hD : va_D _ [(ri, .inl (cI, 132, .inl (upd (upd fi slot.toNatClampNeg 7) x_220.toNatClampNeg r_224))), (rd, .inr (3, [.ref ri, .ref rl, .int rz, .int rc, .int q_226, .int q_227, .int rt, .int ru])), (rl, .inl (cI, 160, .inl fl))] := hD
          refine lv_aload_n hx hb dX3_readItem_67 rfl (lv_at hl 2 rfl) ?_
          refine va_get (D := D) (ci := 3) (v := .int q_227) (C := RX3) (T := TX3) (N := 8) hx hb hts hi_X3_readItem_3 hown hK hP 1 rfl rfl 5 (by decide) (hts (.fieldLink RX3 28 "TheLiningsInIt$Reader" "fault" "I") (List.mem_of_getElem? (i := 2) rfl)) (fun _ h9 => h9) rfl dX3_readItem_68 ?_
          refine lv_iconst (v := (-1)) hx hb dX3_readItem_71 (by decide) ?_
          refine lv_icmp_eq (tgt := 76) hx hb dX3_readItem_72 (by decide) (fun c_228 => ?_) (fun c_228 => ?_)
          · have fc_228 : q_227.toInt = (-1) := zf_eq c_228 rfl (by decide)
            refine lv_iinc (v := 1) (lv' := [(3, .int 1), (2, .int 7), (0, .ref rd), (1, .int slot)]) hx hb dX3_readItem_76 hl (k := 0) rfl (by decide) (by decide) rfl (fun ls hl => ?_)
            refine lv_goto (tgt := 20) hx hb dX3_readItem_79 (by decide) ?_
            refine lv_iload_n hx hb dX3_readItem_20 rfl (lv_at hl 0 rfl) ?_
            refine lv_iload_n hx hb dX3_readItem_21 rfl (lv_at hl 1 rfl) ?_
            refine zc_S (As := [.int 7]) (rest := [.int 1]) ⟨hx, hb, hml, hown, hts⟩ (c_R_numbersOf_7 l D cI cJ cZ cP cS po  ) (va_cwS 1 hts gX3_readItem_X3_numbersOf rfl rfl rfl (by decide +kernel) ⟨Nat.le_of_ble_eq_true rfl, Nat.le_of_ble_eq_true rfl⟩) hK hN (hZ.kept hS) rfl hl.1 rfl (Nat.le_of_ble_eq_true rfl) dX3_readItem_22 ⟨Nat.le_of_ble_eq_true rfl, Nat.le_of_ble_eq_true rfl⟩ (fun r_229 hr_229 => ?_)
            obtain rfl := hr_229
            refine lv_icmp_ge (tgt := 82) hx hb dX3_readItem_25 (by decide) (fun c_230 => ?_) (fun c_230 => ?_)
            · refine lv_iload_n hx hb dX3_readItem_82 rfl (lv_at hl 1 rfl) ?_
              refine lv_if_ne (tgt := 101) hx hb dX3_readItem_83 (by decide) (fun c_231 => ?_) (fun c_231 => ?_)
              · refine lv_iload_n hx hb dX3_readItem_101 rfl (lv_at hl 1 rfl) ?_
                refine lv_iconst (v := 3) hx hb dX3_readItem_102 (by decide) ?_
                refine lv_icmp_ne (tgt := 116) hx hb dX3_readItem_103 (by decide) (fun c_232 => ?_) (fun c_232 => ?_)
                · exact W.vret hx hb hr (fun t ht hW => ⟨⟨(q_226, q_227, rt, ru, (upd (upd fi slot.toNatClampNeg 7) x_220.toNatClampNeg r_224)), rfl, ⟨(show 0 ≤ q_226.toInt ∧ q_226.toInt ≤ 160 from hbq_226), (show (-1) ≤ q_227.toInt ∧ q_227.toInt ≤ 160 from hbq_227), (show 0 ≤ rt.toInt ∧ rt.toInt ≤ 40 from ⟨hy9, hy10⟩), (show 0 ≤ ru.toInt ∧ ru.toInt ≤ 8 from ⟨hy11, hy12⟩), (show q_226.toInt ≤ rz.toInt from by omega), (show (q_227.toInt = -1 → zIt (upd (upd fi slot.toNatClampNeg 7) x_220.toNatClampNeg r_224) slot.toInt.toNat) from by (intro h; have e0 : slot.toNatClampNeg = slot.toInt.toNat + 0 := (by show (slot : Int32).toInt.toNat = _; omega); have e1 : x_220.toNatClampNeg = slot.toInt.toNat + 1 := (by show (x_220 : Int32).toInt.toNat = _; omega); have k3 : (7 : Int32).toInt = 7 := (by decide); first | (exfalso; omega) | exact zIt_mk (by simp only [upd]; rw [if_neg (by omega), if_pos (by omega)]) (by simp only [upd]; rw [if_pos (by omega)]) (rfl) (rfl) (by unfold zItv; refine ⟨?_, ?_, ?_, ?_, ?_, ?_, ?_, ?_, ?_, ?_, ?_⟩ <;> (intros; omega)))), (show (∀ j : Nat, j < slot.toInt.toNat → (upd (upd fi slot.toNatClampNeg 7) x_220.toNatClampNeg r_224) j = fi j) from by (intro j hj; have e0 : slot.toNatClampNeg = slot.toInt.toNat + 0 := (by show (slot : Int32).toInt.toNat = _; omega); have e1 : x_220.toNatClampNeg = slot.toInt.toNat + 1 := (by show (x_220 : Int32).toInt.toNat = _; omega); simp only [upd]; rw [if_neg (by omega), if_neg (by omega)])), trivial⟩, by rw [ht]; exact hP.sub (ws' := [(rd, .inr (3, [.ref ri, .ref rl, .int rz, .int rc, .int q_226, .int q_227, .int rt, .int ru])), (rl, .inl (cI, 160, .inl fl)), (ri, .inl (cI, 132, .inl (upd (upd fi slot.toNatClampNeg 7) x_220.toNatClampNeg r_224)))]) [1, 2, 0] rfl, hD.sub (ws' := [(rd, .inr (3, [.ref ri, .ref rl, .int rz, .int rc, .int q_226, .int q_227, .int rt, .int ru])), (rl, .inl (cI, 160, .inl fl)), (ri, .inl (cI, 132, .inl (upd (upd fi slot.toNatClampNeg 7) x_220.toNatClampNeg r_224)))]) [1, 2, 0] (by decide) rfl⟩, hS.F ht⟩) hS.2.2 dX3_readItem_116
                · exact absurd c_232 (by decide)
              · exact absurd c_231 (by decide)
            · exact absurd c_230 (by decide)
          · have fc_228 : q_227.toInt ≠ (-1) := zf_ne c_228 rfl (by decide)
            exact W.vret hx hb hr (fun t ht hW => ⟨⟨(q_226, q_227, rt, ru, (upd (upd fi slot.toNatClampNeg 7) x_220.toNatClampNeg r_224)), rfl, ⟨(show 0 ≤ q_226.toInt ∧ q_226.toInt ≤ 160 from hbq_226), (show (-1) ≤ q_227.toInt ∧ q_227.toInt ≤ 160 from hbq_227), (show 0 ≤ rt.toInt ∧ rt.toInt ≤ 40 from ⟨hy9, hy10⟩), (show 0 ≤ ru.toInt ∧ ru.toInt ≤ 8 from ⟨hy11, hy12⟩), (show q_226.toInt ≤ rz.toInt from by omega), (show (q_227.toInt = -1 → zIt (upd (upd fi slot.toNatClampNeg 7) x_220.toNatClampNeg r_224) slot.toInt.toNat) from by (intro h; have e0 : slot.toNatClampNeg = slot.toInt.toNat + 0 := (by show (slot : Int32).toInt.toNat = _; omega); have e1 : x_220.toNatClampNeg = slot.toInt.toNat + 1 := (by show (x_220 : Int32).toInt.toNat = _; omega); have k3 : (7 : Int32).toInt = 7 := (by decide); first | (exfalso; omega) | exact zIt_mk (by simp only [upd]; rw [if_neg (by omega), if_pos (by omega)]) (by simp only [upd]; rw [if_pos (by omega)]) (rfl) (rfl) (by unfold zItv; refine ⟨?_, ?_, ?_, ?_, ?_, ?_, ?_, ?_, ?_, ?_, ?_⟩ <;> (intros; omega)))), (show (∀ j : Nat, j < slot.toInt.toNat → (upd (upd fi slot.toNatClampNeg 7) x_220.toNatClampNeg r_224) j = fi j) from by (intro j hj; have e0 : slot.toNatClampNeg = slot.toInt.toNat + 0 := (by show (slot : Int32).toInt.toNat = _; omega); have e1 : x_220.toNatClampNeg = slot.toInt.toNat + 1 := (by show (x_220 : Int32).toInt.toNat = _; omega); simp only [upd]; rw [if_neg (by omega), if_neg (by omega)])), trivial⟩, by rw [ht]; exact hP.sub (ws' := [(rd, .inr (3, [.ref ri, .ref rl, .int rz, .int rc, .int q_226, .int q_227, .int rt, .int ru])), (rl, .inl (cI, 160, .inl fl)), (ri, .inl (cI, 132, .inl (upd (upd fi slot.toNatClampNeg 7) x_220.toNatClampNeg r_224)))]) [1, 2, 0] rfl, hD.sub (ws' := [(rd, .inr (3, [.ref ri, .ref rl, .int rz, .int rc, .int q_226, .int q_227, .int rt, .int ru])), (rl, .inl (cI, 160, .inl fl)), (ri, .inl (cI, 132, .inl (upd (upd fi slot.toNatClampNeg 7) x_220.toNatClampNeg r_224)))]) [1, 2, 0] (by decide) rfl⟩, hS.F ht⟩) hS.2.2 dX3_readItem_75
    · have kc8 : (8 : Int32).toInt = 8 := by decide
      refine lv_aload_n hx hb dX3_readItem_11 rfl (lv_at hl 1 rfl) ?_
      refine va_get (D := D) (ci := 3) (v := .ref ri) (C := RX3) (T := TX3) (N := 8) hx hb hts hi_X3_readItem_3 hown hK hP 1 rfl rfl 0 (by decide) (hts (.fieldLink RX3 11 "TheLiningsInIt$Reader" "items" "[I") (List.mem_of_getElem? (i := 1) rfl)) (fun _ h9 => h9) rfl dX3_readItem_12 ?_
      refine lv_iload_n hx hb dX3_readItem_15 rfl (lv_at hl 2 rfl) ?_
      refine lv_iload_n hx hb dX3_readItem_16 rfl (lv_at hl 0 rfl) ?_
      refine va_iast hx hb hK hP hD hS 0 0 rfl rfl (zf_in (by omega) (by omega)) dX3_readItem_17 (fun H locs hP hD hS => ?_)
      replace hP : va_P D vwCl [(ri, .inl (cI, 132, .inl (upd fi slot.toNatClampNeg 8))), (rd, .inr (3, [.ref ri, .ref rl, .int rz, .int rc, .int q_3, .int q_4, .int rt, .int ru])), (rl, .inl (cI, 160, .inl fl))] H := hP
      replace hD : va_D _ [(ri, .inl (cI, 132, .inl (upd fi slot.toNatClampNeg 8))), (rd, .inr (3, [.ref ri, .ref rl, .int rz, .int rc, .int q_3, .int q_4, .int rt, .int ru])), (rl, .inl (cI, 160, .inl fl))] := hD
      refine lv_iconst (v := 0) hx hb dX3_readItem_18 (by decide) ?_
      refine lv_istore_n (lv' := [(3, .int 0), (2, .int 8), (0, .ref rd), (1, .int slot)]) hx hb dX3_readItem_19 rfl hl (by decide) rfl (fun ls hl => ?_)
      refine lv_iload_n hx hb dX3_readItem_20 rfl (lv_at hl 0 rfl) ?_
      refine lv_iload_n hx hb dX3_readItem_21 rfl (lv_at hl 1 rfl) ?_
      refine zc_S (As := [.int 8]) (rest := [.int 0]) ⟨hx, hb, hml, hown, hts⟩ (c_R_numbersOf_8 l D cI cJ cZ cP cS po  ) (va_cwS 1 hts gX3_readItem_X3_numbersOf rfl rfl rfl (by decide +kernel) ⟨Nat.le_of_ble_eq_true rfl, Nat.le_of_ble_eq_true rfl⟩) hK hN (hZ.kept hS) rfl hl.1 rfl (Nat.le_of_ble_eq_true rfl) dX3_readItem_22 ⟨Nat.le_of_ble_eq_true rfl, Nat.le_of_ble_eq_true rfl⟩ (fun r_233 hr_233 => ?_)
      obtain rfl := hr_233
      refine lv_icmp_ge (tgt := 82) hx hb dX3_readItem_25 (by decide) (fun c_234 => ?_) (fun c_234 => ?_)
      · exact absurd c_234 (by decide)
      · refine lv_aload_n hx hb dX3_readItem_28 rfl (lv_at hl 2 rfl) ?_
        refine lv_bipush (v := 32) hx hb dX3_readItem_29 (by decide) ?_
        skip
        refine zw_Vv (As := [.int 32]) (rest := []) (wr := [(ri, .inl (cI, 132, .inl (upd fi slot.toNatClampNeg 8)))]) ⟨hx, hb, hml, hown, hts⟩ (c_R_expect l D cI cJ cZ cP cS po rd ri rl (rz) (rc) (q_3) (q_4) (rt) (ru) fl (32) hy0 hy1 hy2 hy3 hbq_3.1 hbq_3.2 (by omega) hbq_4.1 hbq_4.2 hy9 hy10 hy11 hy12 H.size) (cwV 1 hts gX3_readItem_X3_expect rfl rfl rfl (by decide +kernel) ⟨Nat.le_of_ble_eq_true rfl, Nat.le_of_ble_eq_true rfl⟩) hK hN (hZ.kept hS) hP hD hS hA [1, 2] [0] rfl rfl (by decide) (by decide) (by decide) (va_recv hK hP (ci := 3) (q0 := 1) rfl rfl) rfl hl.1 rfl (Nat.le_of_ble_eq_true rfl) dX3_readItem_31 ⟨Nat.le_of_ble_eq_true rfl, Nat.le_of_ble_eq_true rfl⟩ (fun u_236 H locs hr_235 hP hD hS => ?_)
        obtain ⟨q_237, q_238⟩ := u_236
        try dsimp only at hr_235
        obtain ⟨hbq_237, hbq_238, hsr_235_0, hsr_235_1, hr_235⟩ := hr_235
        replace hP : va_P D vwCl [(ri, .inl (cI, 132, .inl (upd fi slot.toNatClampNeg 8))), (rd, .inr (3, [.ref ri, .ref rl, .int rz, .int rc, .int q_237, .int q_238, .int rt, .int ru])), (rl, .inl (cI, 160, .inl fl))] H := hP
        replace hD : va_D _ [(ri, .inl (cI, 132, .inl (upd fi slot.toNatClampNeg 8))), (rd, .inr (3, [.ref ri, .ref rl, .int rz, .int rc, .int q_237, .int q_238, .int rt, .int ru])), (rl, .inl (cI, 160, .inl fl))] := hD
        refine lv_aload_n hx hb dX3_readItem_34 rfl (lv_at hl 2 rfl) ?_
        refine va_get (D := D) (ci := 3) (v := .int q_238) (C := RX3) (T := TX3) (N := 8) hx hb hts hi_X3_readItem_3 hown hK hP 1 rfl rfl 5 (by decide) (hts (.fieldLink RX3 28 "TheLiningsInIt$Reader" "fault" "I") (List.mem_of_getElem? (i := 2) rfl)) (fun _ h9 => h9) rfl dX3_readItem_35 ?_
        refine lv_iconst (v := (-1)) hx hb dX3_readItem_38 (by decide) ?_
        refine lv_icmp_ne (tgt := 67) hx hb dX3_readItem_39 (by decide) (fun c_239 => ?_) (fun c_239 => ?_)
        · have fc_239 : q_238.toInt ≠ (-1) := zf_ne c_239 rfl (by decide)
          refine lv_aload_n hx hb dX3_readItem_67 rfl (lv_at hl 2 rfl) ?_
          refine va_get (D := D) (ci := 3) (v := .int q_238) (C := RX3) (T := TX3) (N := 8) hx hb hts hi_X3_readItem_3 hown hK hP 1 rfl rfl 5 (by decide) (hts (.fieldLink RX3 28 "TheLiningsInIt$Reader" "fault" "I") (List.mem_of_getElem? (i := 2) rfl)) (fun _ h9 => h9) rfl dX3_readItem_68 ?_
          refine lv_iconst (v := (-1)) hx hb dX3_readItem_71 (by decide) ?_
          refine lv_icmp_eq (tgt := 76) hx hb dX3_readItem_72 (by decide) (fun c_240 => ?_) (fun c_240 => ?_)
          · exfalso; have fc_240 : q_238.toInt = (-1) := zf_eq c_240 rfl (by decide); omega
          · have fc_240 : q_238.toInt ≠ (-1) := zf_ne c_240 rfl (by decide)
            exact W.vret hx hb hr (fun t ht hW => ⟨⟨(q_237, q_238, rt, ru, (upd fi slot.toNatClampNeg 8)), rfl, ⟨(show 0 ≤ q_237.toInt ∧ q_237.toInt ≤ 160 from hbq_237), (show (-1) ≤ q_238.toInt ∧ q_238.toInt ≤ 160 from hbq_238), (show 0 ≤ rt.toInt ∧ rt.toInt ≤ 40 from ⟨hy9, hy10⟩), (show 0 ≤ ru.toInt ∧ ru.toInt ≤ 8 from ⟨hy11, hy12⟩), (show q_237.toInt ≤ rz.toInt from by omega), (show (q_238.toInt = -1 → zIt (upd fi slot.toNatClampNeg 8) slot.toInt.toNat) from by (intro h; have e0 : slot.toNatClampNeg = slot.toInt.toNat + 0 := (by show (slot : Int32).toInt.toNat = _; omega); have k2 : (8 : Int32).toInt = 8 := (by decide); first | (exfalso; omega) | exact zIt_mk (by simp only [upd]; rw [if_pos (by omega)]) (rfl) (rfl) (rfl) (by unfold zItv; refine ⟨?_, ?_, ?_, ?_, ?_, ?_, ?_, ?_, ?_, ?_, ?_⟩ <;> (intros; omega)))), (show (∀ j : Nat, j < slot.toInt.toNat → (upd fi slot.toNatClampNeg 8) j = fi j) from by (intro j hj; have e0 : slot.toNatClampNeg = slot.toInt.toNat + 0 := (by show (slot : Int32).toInt.toNat = _; omega); simp only [upd]; rw [if_neg (by omega)])), trivial⟩, by rw [ht]; exact hP.sub (ws' := [(rd, .inr (3, [.ref ri, .ref rl, .int rz, .int rc, .int q_237, .int q_238, .int rt, .int ru])), (rl, .inl (cI, 160, .inl fl)), (ri, .inl (cI, 132, .inl (upd fi slot.toNatClampNeg 8)))]) [1, 2, 0] rfl, hD.sub (ws' := [(rd, .inr (3, [.ref ri, .ref rl, .int rz, .int rc, .int q_237, .int q_238, .int rt, .int ru])), (rl, .inl (cI, 160, .inl fl)), (ri, .inl (cI, 132, .inl (upd fi slot.toNatClampNeg 8)))]) [1, 2, 0] (by decide) rfl⟩, hS.F ht⟩) hS.2.2 dX3_readItem_75
        · have fc_239 : q_238.toInt = (-1) := zf_eq c_239 rfl (by decide)
          refine lv_aload_n hx hb dX3_readItem_42 rfl (lv_at hl 2 rfl) ?_
          refine va_get (D := D) (ci := 3) (v := .ref ri) (C := RX3) (T := TX3) (N := 8) hx hb hts hi_X3_readItem_3 hown hK hP 1 rfl rfl 0 (by decide) (hts (.fieldLink RX3 11 "TheLiningsInIt$Reader" "items" "[I") (List.mem_of_getElem? (i := 1) rfl)) (fun _ h9 => h9) rfl dX3_readItem_43 ?_
          refine lv_iload_n hx hb dX3_readItem_46 rfl (lv_at hl 3 rfl) ?_
          refine lv_iconst (v := 1) hx hb dX3_readItem_47 (by decide) ?_
          refine lv_iadd hx hb dX3_readItem_48 ?_
          refine lv_topi (fun x_241 ex_241 => ?_)
          have qx_241 : x_241.toInt = slot.toInt + 1 := by rw [ex_241]; exact zf_add rfl (by decide) (by omega) (by omega)
          refine lv_iload_n hx hb dX3_readItem_49 rfl (lv_at hl 0 rfl) ?_
          refine lv_iadd hx hb dX3_readItem_50 ?_
          refine lv_topi (fun y_242 ey_242 => ?_)
          obtain rfl : x_241 = y_242 := (ey_242.trans (Int32.add_zero x_241)).symm
          refine lv_aload_n hx hb dX3_readItem_51 rfl (lv_at hl 2 rfl) ?_
          refine lv_iload_n hx hb dX3_readItem_52 rfl (lv_at hl 1 rfl) ?_
          refine lv_iload_n hx hb dX3_readItem_53 rfl (lv_at hl 0 rfl) ?_
          refine zc_S (As := [.int 8, .int 0]) (rest := [.ref rd, .int x_241, .ref ri]) ⟨hx, hb, hml, hown, hts⟩ (c_R_leastOf_8_0 l D cI cJ cZ cP cS po  ) (va_cwS 2 hts gX3_readItem_X3_leastOf rfl rfl rfl (by decide +kernel) ⟨Nat.le_of_ble_eq_true rfl, Nat.le_of_ble_eq_true rfl⟩) hK hN (hZ.kept hS) rfl hl.1 rfl (Nat.le_of_ble_eq_true rfl) dX3_readItem_54 ⟨Nat.le_of_ble_eq_true rfl, Nat.le_of_ble_eq_true rfl⟩ (fun r_243 hr_243 => ?_)
          obtain rfl := hr_243
          refine lv_aload_n hx hb dX3_readItem_57 rfl (lv_at hl 2 rfl) ?_
          refine lv_iload_n hx hb dX3_readItem_58 rfl (lv_at hl 1 rfl) ?_
          refine lv_iload_n hx hb dX3_readItem_59 rfl (lv_at hl 0 rfl) ?_
          refine zc_V (As := [.int 8, .int 0]) (rest := [.int 0, .ref rd, .int x_241, .ref ri]) ⟨hx, hb, hml, hown, hts⟩ (c_R_mostOf_8_0 l D cI cJ cZ cP cS po rd ri rl (rz) (rc) (q_237) (q_238) (rt) (ru) hy0 hy1 hy2 hy3 hbq_237.1 hbq_237.2 (by omega) hbq_238.1 hbq_238.2 hy9 hy10 hy11 hy12) (cwV 2 hts gX3_readItem_X3_mostOf rfl rfl rfl (by decide +kernel) ⟨Nat.le_of_ble_eq_true rfl, Nat.le_of_ble_eq_true rfl⟩) hK hN (hZ.kept hS) hP (hP.sub [1] rfl) (va_recv hK hP (ci := 3) (q0 := 1) rfl rfl) rfl hl.1 rfl (Nat.le_of_ble_eq_true rfl) dX3_readItem_60 ⟨Nat.le_of_ble_eq_true rfl, Nat.le_of_ble_eq_true rfl⟩ (fun r_244 hr_244 => ?_)
          obtain rfl := hr_244
          have kc0 : (0 : Int32).toInt = 0 := by decide
          have kc2 : (2 : Int32).toInt = 2 := by decide
          skip
          refine zw_V (As := [.int 0, .int 2]) (rest := [.int x_241, .ref ri]) (wr := [(ri, .inl (cI, 132, .inl (upd fi slot.toNatClampNeg 8)))]) ⟨hx, hb, hml, hown, hts⟩ (c_R_readNumber l D cI cJ cZ cP cS po rd ri rl (rz) (rc) (q_237) (q_238) (rt) (ru) fl (0) (2) hy0 hy1 hy2 hy3 hbq_237.1 hbq_237.2 (by omega) hbq_238.1 hbq_238.2 hy9 hy10 hy11 hy12 H.size) (cwV 2 hts gX3_readItem_X3_readNumber rfl rfl rfl (by decide +kernel) ⟨Nat.le_of_ble_eq_true rfl, Nat.le_of_ble_eq_true rfl⟩) hK hN (hZ.kept hS) hP hD hS hA [1, 2] [0] rfl rfl (by decide) (by decide) (by decide) (va_recv hK hP (ci := 3) (q0 := 1) rfl rfl) rfl hl.1 rfl (Nat.le_of_ble_eq_true rfl) dX3_readItem_63 ⟨Nat.le_of_ble_eq_true rfl, Nat.le_of_ble_eq_true rfl⟩ (fun r_245 u_246 H locs hr_245 hP hD hS => ?_)
          obtain ⟨q_247, q_248⟩ := u_246
          try dsimp only at hr_245
          obtain ⟨hbq_247, hbq_248, hsr_245_0, hsr_245_1, hr_245⟩ := hr_245
          replace hP : va_P D vwCl [(ri, .inl (cI, 132, .inl (upd fi slot.toNatClampNeg 8))), (rd, .inr (3, [.ref ri, .ref rl, .int rz, .int rc, .int q_247, .int q_248, .int rt, .int ru])), (rl, .inl (cI, 160, .inl fl))] H := hP
          replace hD : va_D _ [(ri, .inl (cI, 132, .inl (upd fi slot.toNatClampNeg 8))), (rd, .inr (3, [.ref ri, .ref rl, .int rz, .int rc, .int q_247, .int q_248, .int rt, .int ru])), (rl, .inl (cI, 160, .inl fl))] := hD
          refine va_iast hx hb hK hP hD hS 0 0 rfl rfl (zf_in (by omega) (by omega)) dX3_readItem_66 (fun H locs hP hD hS => ?_)
          replace hP : va_P D vwCl [(ri, .inl (cI, 132, .inl (upd (upd fi slot.toNatClampNeg 8) x_241.toNatClampNeg r_245))), (rd, .inr (3, [.ref ri, .ref rl, .int rz, .int rc, .int q_247, .int q_248, .int rt, .int ru])), (rl, .inl (cI, 160, .inl fl))] H := hP
          replace hD : va_D _ [(ri, .inl (cI, 132, .inl (upd (upd fi slot.toNatClampNeg 8) x_241.toNatClampNeg r_245))), (rd, .inr (3, [.ref ri, .ref rl, .int rz, .int rc, .int q_247, .int q_248, .int rt, .int ru])), (rl, .inl (cI, 160, .inl fl))] := hD
          refine lv_aload_n hx hb dX3_readItem_67 rfl (lv_at hl 2 rfl) ?_
          refine va_get (D := D) (ci := 3) (v := .int q_248) (C := RX3) (T := TX3) (N := 8) hx hb hts hi_X3_readItem_3 hown hK hP 1 rfl rfl 5 (by decide) (hts (.fieldLink RX3 28 "TheLiningsInIt$Reader" "fault" "I") (List.mem_of_getElem? (i := 2) rfl)) (fun _ h9 => h9) rfl dX3_readItem_68 ?_
          refine lv_iconst (v := (-1)) hx hb dX3_readItem_71 (by decide) ?_
          refine lv_icmp_eq (tgt := 76) hx hb dX3_readItem_72 (by decide) (fun c_249 => ?_) (fun c_249 => ?_)
          · have fc_249 : q_248.toInt = (-1) := zf_eq c_249 rfl (by decide)
            refine lv_iinc (v := 1) (lv' := [(3, .int 1), (2, .int 8), (0, .ref rd), (1, .int slot)]) hx hb dX3_readItem_76 hl (k := 0) rfl (by decide) (by decide) rfl (fun ls hl => ?_)
            refine lv_goto (tgt := 20) hx hb dX3_readItem_79 (by decide) ?_
            refine lv_iload_n hx hb dX3_readItem_20 rfl (lv_at hl 0 rfl) ?_
            refine lv_iload_n hx hb dX3_readItem_21 rfl (lv_at hl 1 rfl) ?_
            refine zc_S (As := [.int 8]) (rest := [.int 1]) ⟨hx, hb, hml, hown, hts⟩ (c_R_numbersOf_8 l D cI cJ cZ cP cS po  ) (va_cwS 1 hts gX3_readItem_X3_numbersOf rfl rfl rfl (by decide +kernel) ⟨Nat.le_of_ble_eq_true rfl, Nat.le_of_ble_eq_true rfl⟩) hK hN (hZ.kept hS) rfl hl.1 rfl (Nat.le_of_ble_eq_true rfl) dX3_readItem_22 ⟨Nat.le_of_ble_eq_true rfl, Nat.le_of_ble_eq_true rfl⟩ (fun r_250 hr_250 => ?_)
            obtain rfl := hr_250
            refine lv_icmp_ge (tgt := 82) hx hb dX3_readItem_25 (by decide) (fun c_251 => ?_) (fun c_251 => ?_)
            · exact absurd c_251 (by decide)
            · refine lv_aload_n hx hb dX3_readItem_28 rfl (lv_at hl 2 rfl) ?_
              refine lv_bipush (v := 32) hx hb dX3_readItem_29 (by decide) ?_
              skip
              refine zw_Vv (As := [.int 32]) (rest := []) (wr := [(ri, .inl (cI, 132, .inl (upd (upd fi slot.toNatClampNeg 8) x_241.toNatClampNeg r_245)))]) ⟨hx, hb, hml, hown, hts⟩ (c_R_expect l D cI cJ cZ cP cS po rd ri rl (rz) (rc) (q_247) (q_248) (rt) (ru) fl (32) hy0 hy1 hy2 hy3 hbq_247.1 hbq_247.2 (by omega) hbq_248.1 hbq_248.2 hy9 hy10 hy11 hy12 H.size) (cwV 1 hts gX3_readItem_X3_expect rfl rfl rfl (by decide +kernel) ⟨Nat.le_of_ble_eq_true rfl, Nat.le_of_ble_eq_true rfl⟩) hK hN (hZ.kept hS) hP hD hS hA [1, 2] [0] rfl rfl (by decide) (by decide) (by decide) (va_recv hK hP (ci := 3) (q0 := 1) rfl rfl) rfl hl.1 rfl (Nat.le_of_ble_eq_true rfl) dX3_readItem_31 ⟨Nat.le_of_ble_eq_true rfl, Nat.le_of_ble_eq_true rfl⟩ (fun u_253 H locs hr_252 hP hD hS => ?_)
              obtain ⟨q_254, q_255⟩ := u_253
              try dsimp only at hr_252
              obtain ⟨hbq_254, hbq_255, hsr_252_0, hsr_252_1, hr_252⟩ := hr_252
              replace hP : va_P D vwCl [(ri, .inl (cI, 132, .inl (upd (upd fi slot.toNatClampNeg 8) x_241.toNatClampNeg r_245))), (rd, .inr (3, [.ref ri, .ref rl, .int rz, .int rc, .int q_254, .int q_255, .int rt, .int ru])), (rl, .inl (cI, 160, .inl fl))] H := hP
              replace hD : va_D _ [(ri, .inl (cI, 132, .inl (upd (upd fi slot.toNatClampNeg 8) x_241.toNatClampNeg r_245))), (rd, .inr (3, [.ref ri, .ref rl, .int rz, .int rc, .int q_254, .int q_255, .int rt, .int ru])), (rl, .inl (cI, 160, .inl fl))] := hD
              refine lv_aload_n hx hb dX3_readItem_34 rfl (lv_at hl 2 rfl) ?_
              refine va_get (D := D) (ci := 3) (v := .int q_255) (C := RX3) (T := TX3) (N := 8) hx hb hts hi_X3_readItem_3 hown hK hP 1 rfl rfl 5 (by decide) (hts (.fieldLink RX3 28 "TheLiningsInIt$Reader" "fault" "I") (List.mem_of_getElem? (i := 2) rfl)) (fun _ h9 => h9) rfl dX3_readItem_35 ?_
              refine lv_iconst (v := (-1)) hx hb dX3_readItem_38 (by decide) ?_
              refine lv_icmp_ne (tgt := 67) hx hb dX3_readItem_39 (by decide) (fun c_256 => ?_) (fun c_256 => ?_)
              · have fc_256 : q_255.toInt ≠ (-1) := zf_ne c_256 rfl (by decide)
                refine lv_aload_n hx hb dX3_readItem_67 rfl (lv_at hl 2 rfl) ?_
                refine va_get (D := D) (ci := 3) (v := .int q_255) (C := RX3) (T := TX3) (N := 8) hx hb hts hi_X3_readItem_3 hown hK hP 1 rfl rfl 5 (by decide) (hts (.fieldLink RX3 28 "TheLiningsInIt$Reader" "fault" "I") (List.mem_of_getElem? (i := 2) rfl)) (fun _ h9 => h9) rfl dX3_readItem_68 ?_
                refine lv_iconst (v := (-1)) hx hb dX3_readItem_71 (by decide) ?_
                refine lv_icmp_eq (tgt := 76) hx hb dX3_readItem_72 (by decide) (fun c_257 => ?_) (fun c_257 => ?_)
                · exfalso; have fc_257 : q_255.toInt = (-1) := zf_eq c_257 rfl (by decide); omega
                · have fc_257 : q_255.toInt ≠ (-1) := zf_ne c_257 rfl (by decide)
                  exact W.vret hx hb hr (fun t ht hW => ⟨⟨(q_254, q_255, rt, ru, (upd (upd fi slot.toNatClampNeg 8) x_241.toNatClampNeg r_245)), rfl, ⟨(show 0 ≤ q_254.toInt ∧ q_254.toInt ≤ 160 from hbq_254), (show (-1) ≤ q_255.toInt ∧ q_255.toInt ≤ 160 from hbq_255), (show 0 ≤ rt.toInt ∧ rt.toInt ≤ 40 from ⟨hy9, hy10⟩), (show 0 ≤ ru.toInt ∧ ru.toInt ≤ 8 from ⟨hy11, hy12⟩), (show q_254.toInt ≤ rz.toInt from by omega), (show (q_255.toInt = -1 → zIt (upd (upd fi slot.toNatClampNeg 8) x_241.toNatClampNeg r_245) slot.toInt.toNat) from by (intro h; have e0 : slot.toNatClampNeg = slot.toInt.toNat + 0 := (by show (slot : Int32).toInt.toNat = _; omega); have e1 : x_241.toNatClampNeg = slot.toInt.toNat + 1 := (by show (x_241 : Int32).toInt.toNat = _; omega); have k3 : (8 : Int32).toInt = 8 := (by decide); first | (exfalso; omega) | exact zIt_mk (by simp only [upd]; rw [if_neg (by omega), if_pos (by omega)]) (by simp only [upd]; rw [if_pos (by omega)]) (rfl) (rfl) (by unfold zItv; refine ⟨?_, ?_, ?_, ?_, ?_, ?_, ?_, ?_, ?_, ?_, ?_⟩ <;> (intros; omega)))), (show (∀ j : Nat, j < slot.toInt.toNat → (upd (upd fi slot.toNatClampNeg 8) x_241.toNatClampNeg r_245) j = fi j) from by (intro j hj; have e0 : slot.toNatClampNeg = slot.toInt.toNat + 0 := (by show (slot : Int32).toInt.toNat = _; omega); have e1 : x_241.toNatClampNeg = slot.toInt.toNat + 1 := (by show (x_241 : Int32).toInt.toNat = _; omega); simp only [upd]; rw [if_neg (by omega), if_neg (by omega)])), trivial⟩, by rw [ht]; exact hP.sub (ws' := [(rd, .inr (3, [.ref ri, .ref rl, .int rz, .int rc, .int q_254, .int q_255, .int rt, .int ru])), (rl, .inl (cI, 160, .inl fl)), (ri, .inl (cI, 132, .inl (upd (upd fi slot.toNatClampNeg 8) x_241.toNatClampNeg r_245)))]) [1, 2, 0] rfl, hD.sub (ws' := [(rd, .inr (3, [.ref ri, .ref rl, .int rz, .int rc, .int q_254, .int q_255, .int rt, .int ru])), (rl, .inl (cI, 160, .inl fl)), (ri, .inl (cI, 132, .inl (upd (upd fi slot.toNatClampNeg 8) x_241.toNatClampNeg r_245)))]) [1, 2, 0] (by decide) rfl⟩, hS.F ht⟩) hS.2.2 dX3_readItem_75
              · have fc_256 : q_255.toInt = (-1) := zf_eq c_256 rfl (by decide)
                refine lv_aload_n hx hb dX3_readItem_42 rfl (lv_at hl 2 rfl) ?_
                refine va_get (D := D) (ci := 3) (v := .ref ri) (C := RX3) (T := TX3) (N := 8) hx hb hts hi_X3_readItem_3 hown hK hP 1 rfl rfl 0 (by decide) (hts (.fieldLink RX3 11 "TheLiningsInIt$Reader" "items" "[I") (List.mem_of_getElem? (i := 1) rfl)) (fun _ h9 => h9) rfl dX3_readItem_43 ?_
                refine lv_iload_n hx hb dX3_readItem_46 rfl (lv_at hl 3 rfl) ?_
                refine lv_iconst (v := 1) hx hb dX3_readItem_47 (by decide) ?_
                refine lv_iadd hx hb dX3_readItem_48 ?_
                refine lv_topi (fun y_258 ey_258 => ?_)
                obtain rfl : x_241 = y_258 := ex_241.trans ey_258.symm
                refine lv_iload_n hx hb dX3_readItem_49 rfl (lv_at hl 0 rfl) ?_
                refine lv_iadd hx hb dX3_readItem_50 ?_
                refine lv_topi (fun x_259 ex_259 => ?_)
                have qx_259 : x_259.toInt = x_241.toInt + 1 := by rw [ex_259]; exact zf_add rfl (by decide) (by omega) (by omega)
                refine lv_aload_n hx hb dX3_readItem_51 rfl (lv_at hl 2 rfl) ?_
                refine lv_iload_n hx hb dX3_readItem_52 rfl (lv_at hl 1 rfl) ?_
                refine lv_iload_n hx hb dX3_readItem_53 rfl (lv_at hl 0 rfl) ?_
                refine zc_S (As := [.int 8, .int 1]) (rest := [.ref rd, .int x_259, .ref ri]) ⟨hx, hb, hml, hown, hts⟩ (c_R_leastOf_8_1 l D cI cJ cZ cP cS po  ) (va_cwS 2 hts gX3_readItem_X3_leastOf rfl rfl rfl (by decide +kernel) ⟨Nat.le_of_ble_eq_true rfl, Nat.le_of_ble_eq_true rfl⟩) hK hN (hZ.kept hS) rfl hl.1 rfl (Nat.le_of_ble_eq_true rfl) dX3_readItem_54 ⟨Nat.le_of_ble_eq_true rfl, Nat.le_of_ble_eq_true rfl⟩ (fun r_260 hr_260 => ?_)
                obtain rfl := hr_260
                refine lv_aload_n hx hb dX3_readItem_57 rfl (lv_at hl 2 rfl) ?_
                refine lv_iload_n hx hb dX3_readItem_58 rfl (lv_at hl 1 rfl) ?_
                refine lv_iload_n hx hb dX3_readItem_59 rfl (lv_at hl 0 rfl) ?_
                refine zc_V (As := [.int 8, .int 1]) (rest := [.int 0, .ref rd, .int x_259, .ref ri]) ⟨hx, hb, hml, hown, hts⟩ (c_R_mostOf_8_1 l D cI cJ cZ cP cS po rd ri rl (rz) (rc) (q_254) (q_255) (rt) (ru) hy0 hy1 hy2 hy3 hbq_254.1 hbq_254.2 (by omega) hbq_255.1 hbq_255.2 hy9 hy10 hy11 hy12) (cwV 2 hts gX3_readItem_X3_mostOf rfl rfl rfl (by decide +kernel) ⟨Nat.le_of_ble_eq_true rfl, Nat.le_of_ble_eq_true rfl⟩) hK hN (hZ.kept hS) hP (hP.sub [1] rfl) (va_recv hK hP (ci := 3) (q0 := 1) rfl rfl) rfl hl.1 rfl (Nat.le_of_ble_eq_true rfl) dX3_readItem_60 ⟨Nat.le_of_ble_eq_true rfl, Nat.le_of_ble_eq_true rfl⟩ (fun r_261 hr_261 => ?_)
                obtain rfl := hr_261
                have kc99 : (99 : Int32).toInt = 99 := by decide
                skip
                refine zw_V (As := [.int 0, .int 99]) (rest := [.int x_259, .ref ri]) (wr := [(ri, .inl (cI, 132, .inl (upd (upd fi slot.toNatClampNeg 8) x_241.toNatClampNeg r_245)))]) ⟨hx, hb, hml, hown, hts⟩ (c_R_readNumber l D cI cJ cZ cP cS po rd ri rl (rz) (rc) (q_254) (q_255) (rt) (ru) fl (0) (99) hy0 hy1 hy2 hy3 hbq_254.1 hbq_254.2 (by omega) hbq_255.1 hbq_255.2 hy9 hy10 hy11 hy12 H.size) (cwV 2 hts gX3_readItem_X3_readNumber rfl rfl rfl (by decide +kernel) ⟨Nat.le_of_ble_eq_true rfl, Nat.le_of_ble_eq_true rfl⟩) hK hN (hZ.kept hS) hP hD hS hA [1, 2] [0] rfl rfl (by decide) (by decide) (by decide) (va_recv hK hP (ci := 3) (q0 := 1) rfl rfl) rfl hl.1 rfl (Nat.le_of_ble_eq_true rfl) dX3_readItem_63 ⟨Nat.le_of_ble_eq_true rfl, Nat.le_of_ble_eq_true rfl⟩ (fun r_262 u_263 H locs hr_262 hP hD hS => ?_)
                obtain ⟨q_264, q_265⟩ := u_263
                try dsimp only at hr_262
                obtain ⟨hbq_264, hbq_265, hsr_262_0, hsr_262_1, hr_262⟩ := hr_262
                replace hP : va_P D vwCl [(ri, .inl (cI, 132, .inl (upd (upd fi slot.toNatClampNeg 8) x_241.toNatClampNeg r_245))), (rd, .inr (3, [.ref ri, .ref rl, .int rz, .int rc, .int q_264, .int q_265, .int rt, .int ru])), (rl, .inl (cI, 160, .inl fl))] H := hP
                replace hD : va_D _ [(ri, .inl (cI, 132, .inl (upd (upd fi slot.toNatClampNeg 8) x_241.toNatClampNeg r_245))), (rd, .inr (3, [.ref ri, .ref rl, .int rz, .int rc, .int q_264, .int q_265, .int rt, .int ru])), (rl, .inl (cI, 160, .inl fl))] := hD
                refine va_iast hx hb hK hP hD hS 0 0 rfl rfl (zf_in (by omega) (by omega)) dX3_readItem_66 (fun H locs hP hD hS => ?_)
                replace hP : va_P D vwCl [(ri, .inl (cI, 132, .inl (upd (upd (upd fi slot.toNatClampNeg 8) x_241.toNatClampNeg r_245) x_259.toNatClampNeg r_262))), (rd, .inr (3, [.ref ri, .ref rl, .int rz, .int rc, .int q_264, .int q_265, .int rt, .int ru])), (rl, .inl (cI, 160, .inl fl))] H := hP
                replace hD : va_D _ [(ri, .inl (cI, 132, .inl (upd (upd (upd fi slot.toNatClampNeg 8) x_241.toNatClampNeg r_245) x_259.toNatClampNeg r_262))), (rd, .inr (3, [.ref ri, .ref rl, .int rz, .int rc, .int q_264, .int q_265, .int rt, .int ru])), (rl, .inl (cI, 160, .inl fl))] := hD
                refine lv_aload_n hx hb dX3_readItem_67 rfl (lv_at hl 2 rfl) ?_
                refine va_get (D := D) (ci := 3) (v := .int q_265) (C := RX3) (T := TX3) (N := 8) hx hb hts hi_X3_readItem_3 hown hK hP 1 rfl rfl 5 (by decide) (hts (.fieldLink RX3 28 "TheLiningsInIt$Reader" "fault" "I") (List.mem_of_getElem? (i := 2) rfl)) (fun _ h9 => h9) rfl dX3_readItem_68 ?_
                refine lv_iconst (v := (-1)) hx hb dX3_readItem_71 (by decide) ?_
                refine lv_icmp_eq (tgt := 76) hx hb dX3_readItem_72 (by decide) (fun c_266 => ?_) (fun c_266 => ?_)
                · have fc_266 : q_265.toInt = (-1) := zf_eq c_266 rfl (by decide)
                  refine lv_iinc (v := 2) (lv' := [(3, .int 2), (2, .int 8), (0, .ref rd), (1, .int slot)]) hx hb dX3_readItem_76 hl (k := 0) rfl (by decide) (by decide) rfl (fun ls hl => ?_)
                  refine lv_goto (tgt := 20) hx hb dX3_readItem_79 (by decide) ?_
                  refine lv_iload_n hx hb dX3_readItem_20 rfl (lv_at hl 0 rfl) ?_
                  refine lv_iload_n hx hb dX3_readItem_21 rfl (lv_at hl 1 rfl) ?_
                  refine zc_S (As := [.int 8]) (rest := [.int 2]) ⟨hx, hb, hml, hown, hts⟩ (c_R_numbersOf_8 l D cI cJ cZ cP cS po  ) (va_cwS 1 hts gX3_readItem_X3_numbersOf rfl rfl rfl (by decide +kernel) ⟨Nat.le_of_ble_eq_true rfl, Nat.le_of_ble_eq_true rfl⟩) hK hN (hZ.kept hS) rfl hl.1 rfl (Nat.le_of_ble_eq_true rfl) dX3_readItem_22 ⟨Nat.le_of_ble_eq_true rfl, Nat.le_of_ble_eq_true rfl⟩ (fun r_267 hr_267 => ?_)
                  obtain rfl := hr_267
                  refine lv_icmp_ge (tgt := 82) hx hb dX3_readItem_25 (by decide) (fun c_268 => ?_) (fun c_268 => ?_)
                  · refine lv_iload_n hx hb dX3_readItem_82 rfl (lv_at hl 1 rfl) ?_
                    refine lv_if_ne (tgt := 101) hx hb dX3_readItem_83 (by decide) (fun c_269 => ?_) (fun c_269 => ?_)
                    · refine lv_iload_n hx hb dX3_readItem_101 rfl (lv_at hl 1 rfl) ?_
                      refine lv_iconst (v := 3) hx hb dX3_readItem_102 (by decide) ?_
                      refine lv_icmp_ne (tgt := 116) hx hb dX3_readItem_103 (by decide) (fun c_270 => ?_) (fun c_270 => ?_)
                      · exact W.vret hx hb hr (fun t ht hW => ⟨⟨(q_264, q_265, rt, ru, (upd (upd (upd fi slot.toNatClampNeg 8) x_241.toNatClampNeg r_245) x_259.toNatClampNeg r_262)), rfl, ⟨(show 0 ≤ q_264.toInt ∧ q_264.toInt ≤ 160 from hbq_264), (show (-1) ≤ q_265.toInt ∧ q_265.toInt ≤ 160 from hbq_265), (show 0 ≤ rt.toInt ∧ rt.toInt ≤ 40 from ⟨hy9, hy10⟩), (show 0 ≤ ru.toInt ∧ ru.toInt ≤ 8 from ⟨hy11, hy12⟩), (show q_264.toInt ≤ rz.toInt from by omega), (show (q_265.toInt = -1 → zIt (upd (upd (upd fi slot.toNatClampNeg 8) x_241.toNatClampNeg r_245) x_259.toNatClampNeg r_262) slot.toInt.toNat) from by (intro h; have e0 : slot.toNatClampNeg = slot.toInt.toNat + 0 := (by show (slot : Int32).toInt.toNat = _; omega); have e1 : x_241.toNatClampNeg = slot.toInt.toNat + 1 := (by show (x_241 : Int32).toInt.toNat = _; omega); have e2 : x_259.toNatClampNeg = slot.toInt.toNat + 2 := (by show (x_259 : Int32).toInt.toNat = _; omega); have k4 : (8 : Int32).toInt = 8 := (by decide); first | (exfalso; omega) | exact zIt_mk (by simp only [upd]; rw [if_neg (by omega), if_neg (by omega), if_pos (by omega)]) (by simp only [upd]; rw [if_neg (by omega), if_pos (by omega)]) (by simp only [upd]; rw [if_pos (by omega)]) (rfl) (by unfold zItv; refine ⟨?_, ?_, ?_, ?_, ?_, ?_, ?_, ?_, ?_, ?_, ?_⟩ <;> (intros; omega)))), (show (∀ j : Nat, j < slot.toInt.toNat → (upd (upd (upd fi slot.toNatClampNeg 8) x_241.toNatClampNeg r_245) x_259.toNatClampNeg r_262) j = fi j) from by (intro j hj; have e0 : slot.toNatClampNeg = slot.toInt.toNat + 0 := (by show (slot : Int32).toInt.toNat = _; omega); have e1 : x_241.toNatClampNeg = slot.toInt.toNat + 1 := (by show (x_241 : Int32).toInt.toNat = _; omega); have e2 : x_259.toNatClampNeg = slot.toInt.toNat + 2 := (by show (x_259 : Int32).toInt.toNat = _; omega); simp only [upd]; rw [if_neg (by omega), if_neg (by omega), if_neg (by omega)])), trivial⟩, by rw [ht]; exact hP.sub (ws' := [(rd, .inr (3, [.ref ri, .ref rl, .int rz, .int rc, .int q_264, .int q_265, .int rt, .int ru])), (rl, .inl (cI, 160, .inl fl)), (ri, .inl (cI, 132, .inl (upd (upd (upd fi slot.toNatClampNeg 8) x_241.toNatClampNeg r_245) x_259.toNatClampNeg r_262)))]) [1, 2, 0] rfl, hD.sub (ws' := [(rd, .inr (3, [.ref ri, .ref rl, .int rz, .int rc, .int q_264, .int q_265, .int rt, .int ru])), (rl, .inl (cI, 160, .inl fl)), (ri, .inl (cI, 132, .inl (upd (upd (upd fi slot.toNatClampNeg 8) x_241.toNatClampNeg r_245) x_259.toNatClampNeg r_262)))]) [1, 2, 0] (by decide) rfl⟩, hS.F ht⟩) hS.2.2 dX3_readItem_116
                      · exact absurd c_270 (by decide)
                    · exact absurd c_269 (by decide)
                  · exact absurd c_268 (by decide)
                · have fc_266 : q_265.toInt ≠ (-1) := zf_ne c_266 rfl (by decide)
                  exact W.vret hx hb hr (fun t ht hW => ⟨⟨(q_264, q_265, rt, ru, (upd (upd (upd fi slot.toNatClampNeg 8) x_241.toNatClampNeg r_245) x_259.toNatClampNeg r_262)), rfl, ⟨(show 0 ≤ q_264.toInt ∧ q_264.toInt ≤ 160 from hbq_264), (show (-1) ≤ q_265.toInt ∧ q_265.toInt ≤ 160 from hbq_265), (show 0 ≤ rt.toInt ∧ rt.toInt ≤ 40 from ⟨hy9, hy10⟩), (show 0 ≤ ru.toInt ∧ ru.toInt ≤ 8 from ⟨hy11, hy12⟩), (show q_264.toInt ≤ rz.toInt from by omega), (show (q_265.toInt = -1 → zIt (upd (upd (upd fi slot.toNatClampNeg 8) x_241.toNatClampNeg r_245) x_259.toNatClampNeg r_262) slot.toInt.toNat) from by (intro h; have e0 : slot.toNatClampNeg = slot.toInt.toNat + 0 := (by show (slot : Int32).toInt.toNat = _; omega); have e1 : x_241.toNatClampNeg = slot.toInt.toNat + 1 := (by show (x_241 : Int32).toInt.toNat = _; omega); have e2 : x_259.toNatClampNeg = slot.toInt.toNat + 2 := (by show (x_259 : Int32).toInt.toNat = _; omega); have k4 : (8 : Int32).toInt = 8 := (by decide); first | (exfalso; omega) | exact zIt_mk (by simp only [upd]; rw [if_neg (by omega), if_neg (by omega), if_pos (by omega)]) (by simp only [upd]; rw [if_neg (by omega), if_pos (by omega)]) (by simp only [upd]; rw [if_pos (by omega)]) (rfl) (by unfold zItv; refine ⟨?_, ?_, ?_, ?_, ?_, ?_, ?_, ?_, ?_, ?_, ?_⟩ <;> (intros; omega)))), (show (∀ j : Nat, j < slot.toInt.toNat → (upd (upd (upd fi slot.toNatClampNeg 8) x_241.toNatClampNeg r_245) x_259.toNatClampNeg r_262) j = fi j) from by (intro j hj; have e0 : slot.toNatClampNeg = slot.toInt.toNat + 0 := (by show (slot : Int32).toInt.toNat = _; omega); have e1 : x_241.toNatClampNeg = slot.toInt.toNat + 1 := (by show (x_241 : Int32).toInt.toNat = _; omega); have e2 : x_259.toNatClampNeg = slot.toInt.toNat + 2 := (by show (x_259 : Int32).toInt.toNat = _; omega); simp only [upd]; rw [if_neg (by omega), if_neg (by omega), if_neg (by omega)])), trivial⟩, by rw [ht]; exact hP.sub (ws' := [(rd, .inr (3, [.ref ri, .ref rl, .int rz, .int rc, .int q_264, .int q_265, .int rt, .int ru])), (rl, .inl (cI, 160, .inl fl)), (ri, .inl (cI, 132, .inl (upd (upd (upd fi slot.toNatClampNeg 8) x_241.toNatClampNeg r_245) x_259.toNatClampNeg r_262)))]) [1, 2, 0] rfl, hD.sub (ws' := [(rd, .inr (3, [.ref ri, .ref rl, .int rz, .int rc, .int q_264, .int q_265, .int rt, .int ru])), (rl, .inl (cI, 160, .inl fl)), (ri, .inl (cI, 132, .inl (upd (upd (upd fi slot.toNatClampNeg 8) x_241.toNatClampNeg r_245) x_259.toNatClampNeg r_262)))]) [1, 2, 0] (by decide) rfl⟩, hS.F ht⟩) hS.2.2 dX3_readItem_75
          · have fc_249 : q_248.toInt ≠ (-1) := zf_ne c_249 rfl (by decide)
            exact W.vret hx hb hr (fun t ht hW => ⟨⟨(q_247, q_248, rt, ru, (upd (upd fi slot.toNatClampNeg 8) x_241.toNatClampNeg r_245)), rfl, ⟨(show 0 ≤ q_247.toInt ∧ q_247.toInt ≤ 160 from hbq_247), (show (-1) ≤ q_248.toInt ∧ q_248.toInt ≤ 160 from hbq_248), (show 0 ≤ rt.toInt ∧ rt.toInt ≤ 40 from ⟨hy9, hy10⟩), (show 0 ≤ ru.toInt ∧ ru.toInt ≤ 8 from ⟨hy11, hy12⟩), (show q_247.toInt ≤ rz.toInt from by omega), (show (q_248.toInt = -1 → zIt (upd (upd fi slot.toNatClampNeg 8) x_241.toNatClampNeg r_245) slot.toInt.toNat) from by (intro h; have e0 : slot.toNatClampNeg = slot.toInt.toNat + 0 := (by show (slot : Int32).toInt.toNat = _; omega); have e1 : x_241.toNatClampNeg = slot.toInt.toNat + 1 := (by show (x_241 : Int32).toInt.toNat = _; omega); have k3 : (8 : Int32).toInt = 8 := (by decide); first | (exfalso; omega) | exact zIt_mk (by simp only [upd]; rw [if_neg (by omega), if_pos (by omega)]) (by simp only [upd]; rw [if_pos (by omega)]) (rfl) (rfl) (by unfold zItv; refine ⟨?_, ?_, ?_, ?_, ?_, ?_, ?_, ?_, ?_, ?_, ?_⟩ <;> (intros; omega)))), (show (∀ j : Nat, j < slot.toInt.toNat → (upd (upd fi slot.toNatClampNeg 8) x_241.toNatClampNeg r_245) j = fi j) from by (intro j hj; have e0 : slot.toNatClampNeg = slot.toInt.toNat + 0 := (by show (slot : Int32).toInt.toNat = _; omega); have e1 : x_241.toNatClampNeg = slot.toInt.toNat + 1 := (by show (x_241 : Int32).toInt.toNat = _; omega); simp only [upd]; rw [if_neg (by omega), if_neg (by omega)])), trivial⟩, by rw [ht]; exact hP.sub (ws' := [(rd, .inr (3, [.ref ri, .ref rl, .int rz, .int rc, .int q_247, .int q_248, .int rt, .int ru])), (rl, .inl (cI, 160, .inl fl)), (ri, .inl (cI, 132, .inl (upd (upd fi slot.toNatClampNeg 8) x_241.toNatClampNeg r_245)))]) [1, 2, 0] rfl, hD.sub (ws' := [(rd, .inr (3, [.ref ri, .ref rl, .int rz, .int rc, .int q_247, .int q_248, .int rt, .int ru])), (rl, .inl (cI, 160, .inl fl)), (ri, .inl (cI, 132, .inl (upd (upd fi slot.toNatClampNeg 8) x_241.toNatClampNeg r_245)))]) [1, 2, 0] (by decide) rfl⟩, hS.F ht⟩) hS.2.2 dX3_readItem_75
    · have kc9 : (9 : Int32).toInt = 9 := by decide
      refine lv_aload_n hx hb dX3_readItem_11 rfl (lv_at hl 1 rfl) ?_
      refine va_get (D := D) (ci := 3) (v := .ref ri) (C := RX3) (T := TX3) (N := 8) hx hb hts hi_X3_readItem_3 hown hK hP 1 rfl rfl 0 (by decide) (hts (.fieldLink RX3 11 "TheLiningsInIt$Reader" "items" "[I") (List.mem_of_getElem? (i := 1) rfl)) (fun _ h9 => h9) rfl dX3_readItem_12 ?_
      refine lv_iload_n hx hb dX3_readItem_15 rfl (lv_at hl 2 rfl) ?_
      refine lv_iload_n hx hb dX3_readItem_16 rfl (lv_at hl 0 rfl) ?_
      refine va_iast hx hb hK hP hD hS 0 0 rfl rfl (zf_in (by omega) (by omega)) dX3_readItem_17 (fun H locs hP hD hS => ?_)
      replace hP : va_P D vwCl [(ri, .inl (cI, 132, .inl (upd fi slot.toNatClampNeg 9))), (rd, .inr (3, [.ref ri, .ref rl, .int rz, .int rc, .int q_3, .int q_4, .int rt, .int ru])), (rl, .inl (cI, 160, .inl fl))] H := hP
      replace hD : va_D _ [(ri, .inl (cI, 132, .inl (upd fi slot.toNatClampNeg 9))), (rd, .inr (3, [.ref ri, .ref rl, .int rz, .int rc, .int q_3, .int q_4, .int rt, .int ru])), (rl, .inl (cI, 160, .inl fl))] := hD
      refine lv_iconst (v := 0) hx hb dX3_readItem_18 (by decide) ?_
      refine lv_istore_n (lv' := [(3, .int 0), (2, .int 9), (0, .ref rd), (1, .int slot)]) hx hb dX3_readItem_19 rfl hl (by decide) rfl (fun ls hl => ?_)
      refine lv_iload_n hx hb dX3_readItem_20 rfl (lv_at hl 0 rfl) ?_
      refine lv_iload_n hx hb dX3_readItem_21 rfl (lv_at hl 1 rfl) ?_
      refine zc_S (As := [.int 9]) (rest := [.int 0]) ⟨hx, hb, hml, hown, hts⟩ (c_R_numbersOf_9 l D cI cJ cZ cP cS po  ) (va_cwS 1 hts gX3_readItem_X3_numbersOf rfl rfl rfl (by decide +kernel) ⟨Nat.le_of_ble_eq_true rfl, Nat.le_of_ble_eq_true rfl⟩) hK hN (hZ.kept hS) rfl hl.1 rfl (Nat.le_of_ble_eq_true rfl) dX3_readItem_22 ⟨Nat.le_of_ble_eq_true rfl, Nat.le_of_ble_eq_true rfl⟩ (fun r_271 hr_271 => ?_)
      obtain rfl := hr_271
      refine lv_icmp_ge (tgt := 82) hx hb dX3_readItem_25 (by decide) (fun c_272 => ?_) (fun c_272 => ?_)
      · exact absurd c_272 (by decide)
      · refine lv_aload_n hx hb dX3_readItem_28 rfl (lv_at hl 2 rfl) ?_
        refine lv_bipush (v := 32) hx hb dX3_readItem_29 (by decide) ?_
        skip
        refine zw_Vv (As := [.int 32]) (rest := []) (wr := [(ri, .inl (cI, 132, .inl (upd fi slot.toNatClampNeg 9)))]) ⟨hx, hb, hml, hown, hts⟩ (c_R_expect l D cI cJ cZ cP cS po rd ri rl (rz) (rc) (q_3) (q_4) (rt) (ru) fl (32) hy0 hy1 hy2 hy3 hbq_3.1 hbq_3.2 (by omega) hbq_4.1 hbq_4.2 hy9 hy10 hy11 hy12 H.size) (cwV 1 hts gX3_readItem_X3_expect rfl rfl rfl (by decide +kernel) ⟨Nat.le_of_ble_eq_true rfl, Nat.le_of_ble_eq_true rfl⟩) hK hN (hZ.kept hS) hP hD hS hA [1, 2] [0] rfl rfl (by decide) (by decide) (by decide) (va_recv hK hP (ci := 3) (q0 := 1) rfl rfl) rfl hl.1 rfl (Nat.le_of_ble_eq_true rfl) dX3_readItem_31 ⟨Nat.le_of_ble_eq_true rfl, Nat.le_of_ble_eq_true rfl⟩ (fun u_274 H locs hr_273 hP hD hS => ?_)
        obtain ⟨q_275, q_276⟩ := u_274
        try dsimp only at hr_273
        obtain ⟨hbq_275, hbq_276, hsr_273_0, hsr_273_1, hr_273⟩ := hr_273
        replace hP : va_P D vwCl [(ri, .inl (cI, 132, .inl (upd fi slot.toNatClampNeg 9))), (rd, .inr (3, [.ref ri, .ref rl, .int rz, .int rc, .int q_275, .int q_276, .int rt, .int ru])), (rl, .inl (cI, 160, .inl fl))] H := hP
        replace hD : va_D _ [(ri, .inl (cI, 132, .inl (upd fi slot.toNatClampNeg 9))), (rd, .inr (3, [.ref ri, .ref rl, .int rz, .int rc, .int q_275, .int q_276, .int rt, .int ru])), (rl, .inl (cI, 160, .inl fl))] := hD
        refine lv_aload_n hx hb dX3_readItem_34 rfl (lv_at hl 2 rfl) ?_
        refine va_get (D := D) (ci := 3) (v := .int q_276) (C := RX3) (T := TX3) (N := 8) hx hb hts hi_X3_readItem_3 hown hK hP 1 rfl rfl 5 (by decide) (hts (.fieldLink RX3 28 "TheLiningsInIt$Reader" "fault" "I") (List.mem_of_getElem? (i := 2) rfl)) (fun _ h9 => h9) rfl dX3_readItem_35 ?_
        refine lv_iconst (v := (-1)) hx hb dX3_readItem_38 (by decide) ?_
        refine lv_icmp_ne (tgt := 67) hx hb dX3_readItem_39 (by decide) (fun c_277 => ?_) (fun c_277 => ?_)
        · have fc_277 : q_276.toInt ≠ (-1) := zf_ne c_277 rfl (by decide)
          refine lv_aload_n hx hb dX3_readItem_67 rfl (lv_at hl 2 rfl) ?_
          refine va_get (D := D) (ci := 3) (v := .int q_276) (C := RX3) (T := TX3) (N := 8) hx hb hts hi_X3_readItem_3 hown hK hP 1 rfl rfl 5 (by decide) (hts (.fieldLink RX3 28 "TheLiningsInIt$Reader" "fault" "I") (List.mem_of_getElem? (i := 2) rfl)) (fun _ h9 => h9) rfl dX3_readItem_68 ?_
          refine lv_iconst (v := (-1)) hx hb dX3_readItem_71 (by decide) ?_
          refine lv_icmp_eq (tgt := 76) hx hb dX3_readItem_72 (by decide) (fun c_278 => ?_) (fun c_278 => ?_)
          · exfalso; have fc_278 : q_276.toInt = (-1) := zf_eq c_278 rfl (by decide); omega
          · have fc_278 : q_276.toInt ≠ (-1) := zf_ne c_278 rfl (by decide)
            exact W.vret hx hb hr (fun t ht hW => ⟨⟨(q_275, q_276, rt, ru, (upd fi slot.toNatClampNeg 9)), rfl, ⟨(show 0 ≤ q_275.toInt ∧ q_275.toInt ≤ 160 from hbq_275), (show (-1) ≤ q_276.toInt ∧ q_276.toInt ≤ 160 from hbq_276), (show 0 ≤ rt.toInt ∧ rt.toInt ≤ 40 from ⟨hy9, hy10⟩), (show 0 ≤ ru.toInt ∧ ru.toInt ≤ 8 from ⟨hy11, hy12⟩), (show q_275.toInt ≤ rz.toInt from by omega), (show (q_276.toInt = -1 → zIt (upd fi slot.toNatClampNeg 9) slot.toInt.toNat) from by (intro h; have e0 : slot.toNatClampNeg = slot.toInt.toNat + 0 := (by show (slot : Int32).toInt.toNat = _; omega); have k2 : (9 : Int32).toInt = 9 := (by decide); first | (exfalso; omega) | exact zIt_mk (by simp only [upd]; rw [if_pos (by omega)]) (rfl) (rfl) (rfl) (by unfold zItv; refine ⟨?_, ?_, ?_, ?_, ?_, ?_, ?_, ?_, ?_, ?_, ?_⟩ <;> (intros; omega)))), (show (∀ j : Nat, j < slot.toInt.toNat → (upd fi slot.toNatClampNeg 9) j = fi j) from by (intro j hj; have e0 : slot.toNatClampNeg = slot.toInt.toNat + 0 := (by show (slot : Int32).toInt.toNat = _; omega); simp only [upd]; rw [if_neg (by omega)])), trivial⟩, by rw [ht]; exact hP.sub (ws' := [(rd, .inr (3, [.ref ri, .ref rl, .int rz, .int rc, .int q_275, .int q_276, .int rt, .int ru])), (rl, .inl (cI, 160, .inl fl)), (ri, .inl (cI, 132, .inl (upd fi slot.toNatClampNeg 9)))]) [1, 2, 0] rfl, hD.sub (ws' := [(rd, .inr (3, [.ref ri, .ref rl, .int rz, .int rc, .int q_275, .int q_276, .int rt, .int ru])), (rl, .inl (cI, 160, .inl fl)), (ri, .inl (cI, 132, .inl (upd fi slot.toNatClampNeg 9)))]) [1, 2, 0] (by decide) rfl⟩, hS.F ht⟩) hS.2.2 dX3_readItem_75
        · have fc_277 : q_276.toInt = (-1) := zf_eq c_277 rfl (by decide)
          refine lv_aload_n hx hb dX3_readItem_42 rfl (lv_at hl 2 rfl) ?_
          refine va_get (D := D) (ci := 3) (v := .ref ri) (C := RX3) (T := TX3) (N := 8) hx hb hts hi_X3_readItem_3 hown hK hP 1 rfl rfl 0 (by decide) (hts (.fieldLink RX3 11 "TheLiningsInIt$Reader" "items" "[I") (List.mem_of_getElem? (i := 1) rfl)) (fun _ h9 => h9) rfl dX3_readItem_43 ?_
          refine lv_iload_n hx hb dX3_readItem_46 rfl (lv_at hl 3 rfl) ?_
          refine lv_iconst (v := 1) hx hb dX3_readItem_47 (by decide) ?_
          refine lv_iadd hx hb dX3_readItem_48 ?_
          refine lv_topi (fun x_279 ex_279 => ?_)
          have qx_279 : x_279.toInt = slot.toInt + 1 := by rw [ex_279]; exact zf_add rfl (by decide) (by omega) (by omega)
          refine lv_iload_n hx hb dX3_readItem_49 rfl (lv_at hl 0 rfl) ?_
          refine lv_iadd hx hb dX3_readItem_50 ?_
          refine lv_topi (fun y_280 ey_280 => ?_)
          obtain rfl : x_279 = y_280 := (ey_280.trans (Int32.add_zero x_279)).symm
          refine lv_aload_n hx hb dX3_readItem_51 rfl (lv_at hl 2 rfl) ?_
          refine lv_iload_n hx hb dX3_readItem_52 rfl (lv_at hl 1 rfl) ?_
          refine lv_iload_n hx hb dX3_readItem_53 rfl (lv_at hl 0 rfl) ?_
          refine zc_S (As := [.int 9, .int 0]) (rest := [.ref rd, .int x_279, .ref ri]) ⟨hx, hb, hml, hown, hts⟩ (c_R_leastOf_9_0 l D cI cJ cZ cP cS po  ) (va_cwS 2 hts gX3_readItem_X3_leastOf rfl rfl rfl (by decide +kernel) ⟨Nat.le_of_ble_eq_true rfl, Nat.le_of_ble_eq_true rfl⟩) hK hN (hZ.kept hS) rfl hl.1 rfl (Nat.le_of_ble_eq_true rfl) dX3_readItem_54 ⟨Nat.le_of_ble_eq_true rfl, Nat.le_of_ble_eq_true rfl⟩ (fun r_281 hr_281 => ?_)
          obtain rfl := hr_281
          refine lv_aload_n hx hb dX3_readItem_57 rfl (lv_at hl 2 rfl) ?_
          refine lv_iload_n hx hb dX3_readItem_58 rfl (lv_at hl 1 rfl) ?_
          refine lv_iload_n hx hb dX3_readItem_59 rfl (lv_at hl 0 rfl) ?_
          refine zc_V (As := [.int 9, .int 0]) (rest := [.int 0, .ref rd, .int x_279, .ref ri]) ⟨hx, hb, hml, hown, hts⟩ (c_R_mostOf_9_0 l D cI cJ cZ cP cS po rd ri rl (rz) (rc) (q_275) (q_276) (rt) (ru) hy0 hy1 hy2 hy3 hbq_275.1 hbq_275.2 (by omega) hbq_276.1 hbq_276.2 hy9 hy10 hy11 hy12) (cwV 2 hts gX3_readItem_X3_mostOf rfl rfl rfl (by decide +kernel) ⟨Nat.le_of_ble_eq_true rfl, Nat.le_of_ble_eq_true rfl⟩) hK hN (hZ.kept hS) hP (hP.sub [1] rfl) (va_recv hK hP (ci := 3) (q0 := 1) rfl rfl) rfl hl.1 rfl (Nat.le_of_ble_eq_true rfl) dX3_readItem_60 ⟨Nat.le_of_ble_eq_true rfl, Nat.le_of_ble_eq_true rfl⟩ (fun r_282 hr_282 => ?_)
          obtain ⟨g_283, g_284, hsr_282_0⟩ := hr_282
          have kc0 : (0 : Int32).toInt = 0 := by decide
          skip
          refine zw_V (As := [.int 0, .int r_282]) (rest := [.int x_279, .ref ri]) (wr := [(ri, .inl (cI, 132, .inl (upd fi slot.toNatClampNeg 9)))]) ⟨hx, hb, hml, hown, hts⟩ (c_R_readNumber l D cI cJ cZ cP cS po rd ri rl (rz) (rc) (q_275) (q_276) (rt) (ru) fl (0) (r_282) hy0 hy1 hy2 hy3 hbq_275.1 hbq_275.2 (by omega) hbq_276.1 hbq_276.2 hy9 hy10 hy11 hy12 H.size) (cwV 2 hts gX3_readItem_X3_readNumber rfl rfl rfl (by decide +kernel) ⟨Nat.le_of_ble_eq_true rfl, Nat.le_of_ble_eq_true rfl⟩) hK hN (hZ.kept hS) hP hD hS hA [1, 2] [0] rfl rfl (by decide) (by decide) (by decide) (va_recv hK hP (ci := 3) (q0 := 1) rfl rfl) rfl hl.1 rfl (Nat.le_of_ble_eq_true rfl) dX3_readItem_63 ⟨Nat.le_of_ble_eq_true rfl, Nat.le_of_ble_eq_true rfl⟩ (fun r_285 u_286 H locs hr_285 hP hD hS => ?_)
          obtain ⟨q_287, q_288⟩ := u_286
          try dsimp only at hr_285
          obtain ⟨hbq_287, hbq_288, hsr_285_0, hsr_285_1, hr_285⟩ := hr_285
          replace hP : va_P D vwCl [(ri, .inl (cI, 132, .inl (upd fi slot.toNatClampNeg 9))), (rd, .inr (3, [.ref ri, .ref rl, .int rz, .int rc, .int q_287, .int q_288, .int rt, .int ru])), (rl, .inl (cI, 160, .inl fl))] H := hP
          replace hD : va_D _ [(ri, .inl (cI, 132, .inl (upd fi slot.toNatClampNeg 9))), (rd, .inr (3, [.ref ri, .ref rl, .int rz, .int rc, .int q_287, .int q_288, .int rt, .int ru])), (rl, .inl (cI, 160, .inl fl))] := hD
          refine va_iast hx hb hK hP hD hS 0 0 rfl rfl (zf_in (by omega) (by omega)) dX3_readItem_66 (fun H locs hP hD hS => ?_)
          replace hP : va_P D vwCl [(ri, .inl (cI, 132, .inl (upd (upd fi slot.toNatClampNeg 9) x_279.toNatClampNeg r_285))), (rd, .inr (3, [.ref ri, .ref rl, .int rz, .int rc, .int q_287, .int q_288, .int rt, .int ru])), (rl, .inl (cI, 160, .inl fl))] H := hP
          replace hD : va_D _ [(ri, .inl (cI, 132, .inl (upd (upd fi slot.toNatClampNeg 9) x_279.toNatClampNeg r_285))), (rd, .inr (3, [.ref ri, .ref rl, .int rz, .int rc, .int q_287, .int q_288, .int rt, .int ru])), (rl, .inl (cI, 160, .inl fl))] := hD
          refine lv_aload_n hx hb dX3_readItem_67 rfl (lv_at hl 2 rfl) ?_
          refine va_get (D := D) (ci := 3) (v := .int q_288) (C := RX3) (T := TX3) (N := 8) hx hb hts hi_X3_readItem_3 hown hK hP 1 rfl rfl 5 (by decide) (hts (.fieldLink RX3 28 "TheLiningsInIt$Reader" "fault" "I") (List.mem_of_getElem? (i := 2) rfl)) (fun _ h9 => h9) rfl dX3_readItem_68 ?_
          refine lv_iconst (v := (-1)) hx hb dX3_readItem_71 (by decide) ?_
          refine lv_icmp_eq (tgt := 76) hx hb dX3_readItem_72 (by decide) (fun c_289 => ?_) (fun c_289 => ?_)
          · have fc_289 : q_288.toInt = (-1) := zf_eq c_289 rfl (by decide)
            refine lv_iinc (v := 1) (lv' := [(3, .int 1), (2, .int 9), (0, .ref rd), (1, .int slot)]) hx hb dX3_readItem_76 hl (k := 0) rfl (by decide) (by decide) rfl (fun ls hl => ?_)
            refine lv_goto (tgt := 20) hx hb dX3_readItem_79 (by decide) ?_
            refine lv_iload_n hx hb dX3_readItem_20 rfl (lv_at hl 0 rfl) ?_
            refine lv_iload_n hx hb dX3_readItem_21 rfl (lv_at hl 1 rfl) ?_
            refine zc_S (As := [.int 9]) (rest := [.int 1]) ⟨hx, hb, hml, hown, hts⟩ (c_R_numbersOf_9 l D cI cJ cZ cP cS po  ) (va_cwS 1 hts gX3_readItem_X3_numbersOf rfl rfl rfl (by decide +kernel) ⟨Nat.le_of_ble_eq_true rfl, Nat.le_of_ble_eq_true rfl⟩) hK hN (hZ.kept hS) rfl hl.1 rfl (Nat.le_of_ble_eq_true rfl) dX3_readItem_22 ⟨Nat.le_of_ble_eq_true rfl, Nat.le_of_ble_eq_true rfl⟩ (fun r_290 hr_290 => ?_)
            obtain rfl := hr_290
            refine lv_icmp_ge (tgt := 82) hx hb dX3_readItem_25 (by decide) (fun c_291 => ?_) (fun c_291 => ?_)
            · refine lv_iload_n hx hb dX3_readItem_82 rfl (lv_at hl 1 rfl) ?_
              refine lv_if_ne (tgt := 101) hx hb dX3_readItem_83 (by decide) (fun c_292 => ?_) (fun c_292 => ?_)
              · refine lv_iload_n hx hb dX3_readItem_101 rfl (lv_at hl 1 rfl) ?_
                refine lv_iconst (v := 3) hx hb dX3_readItem_102 (by decide) ?_
                refine lv_icmp_ne (tgt := 116) hx hb dX3_readItem_103 (by decide) (fun c_293 => ?_) (fun c_293 => ?_)
                · exact W.vret hx hb hr (fun t ht hW => ⟨⟨(q_287, q_288, rt, ru, (upd (upd fi slot.toNatClampNeg 9) x_279.toNatClampNeg r_285)), rfl, ⟨(show 0 ≤ q_287.toInt ∧ q_287.toInt ≤ 160 from hbq_287), (show (-1) ≤ q_288.toInt ∧ q_288.toInt ≤ 160 from hbq_288), (show 0 ≤ rt.toInt ∧ rt.toInt ≤ 40 from ⟨hy9, hy10⟩), (show 0 ≤ ru.toInt ∧ ru.toInt ≤ 8 from ⟨hy11, hy12⟩), (show q_287.toInt ≤ rz.toInt from by omega), (show (q_288.toInt = -1 → zIt (upd (upd fi slot.toNatClampNeg 9) x_279.toNatClampNeg r_285) slot.toInt.toNat) from by (intro h; have e0 : slot.toNatClampNeg = slot.toInt.toNat + 0 := (by show (slot : Int32).toInt.toNat = _; omega); have e1 : x_279.toNatClampNeg = slot.toInt.toNat + 1 := (by show (x_279 : Int32).toInt.toNat = _; omega); have k3 : (9 : Int32).toInt = 9 := (by decide); first | (exfalso; omega) | exact zIt_mk (by simp only [upd]; rw [if_neg (by omega), if_pos (by omega)]) (by simp only [upd]; rw [if_pos (by omega)]) (rfl) (rfl) (by unfold zItv; refine ⟨?_, ?_, ?_, ?_, ?_, ?_, ?_, ?_, ?_, ?_, ?_⟩ <;> (intros; omega)))), (show (∀ j : Nat, j < slot.toInt.toNat → (upd (upd fi slot.toNatClampNeg 9) x_279.toNatClampNeg r_285) j = fi j) from by (intro j hj; have e0 : slot.toNatClampNeg = slot.toInt.toNat + 0 := (by show (slot : Int32).toInt.toNat = _; omega); have e1 : x_279.toNatClampNeg = slot.toInt.toNat + 1 := (by show (x_279 : Int32).toInt.toNat = _; omega); simp only [upd]; rw [if_neg (by omega), if_neg (by omega)])), trivial⟩, by rw [ht]; exact hP.sub (ws' := [(rd, .inr (3, [.ref ri, .ref rl, .int rz, .int rc, .int q_287, .int q_288, .int rt, .int ru])), (rl, .inl (cI, 160, .inl fl)), (ri, .inl (cI, 132, .inl (upd (upd fi slot.toNatClampNeg 9) x_279.toNatClampNeg r_285)))]) [1, 2, 0] rfl, hD.sub (ws' := [(rd, .inr (3, [.ref ri, .ref rl, .int rz, .int rc, .int q_287, .int q_288, .int rt, .int ru])), (rl, .inl (cI, 160, .inl fl)), (ri, .inl (cI, 132, .inl (upd (upd fi slot.toNatClampNeg 9) x_279.toNatClampNeg r_285)))]) [1, 2, 0] (by decide) rfl⟩, hS.F ht⟩) hS.2.2 dX3_readItem_116
                · exact absurd c_293 (by decide)
              · exact absurd c_292 (by decide)
            · exact absurd c_291 (by decide)
          · have fc_289 : q_288.toInt ≠ (-1) := zf_ne c_289 rfl (by decide)
            exact W.vret hx hb hr (fun t ht hW => ⟨⟨(q_287, q_288, rt, ru, (upd (upd fi slot.toNatClampNeg 9) x_279.toNatClampNeg r_285)), rfl, ⟨(show 0 ≤ q_287.toInt ∧ q_287.toInt ≤ 160 from hbq_287), (show (-1) ≤ q_288.toInt ∧ q_288.toInt ≤ 160 from hbq_288), (show 0 ≤ rt.toInt ∧ rt.toInt ≤ 40 from ⟨hy9, hy10⟩), (show 0 ≤ ru.toInt ∧ ru.toInt ≤ 8 from ⟨hy11, hy12⟩), (show q_287.toInt ≤ rz.toInt from by omega), (show (q_288.toInt = -1 → zIt (upd (upd fi slot.toNatClampNeg 9) x_279.toNatClampNeg r_285) slot.toInt.toNat) from by (intro h; have e0 : slot.toNatClampNeg = slot.toInt.toNat + 0 := (by show (slot : Int32).toInt.toNat = _; omega); have e1 : x_279.toNatClampNeg = slot.toInt.toNat + 1 := (by show (x_279 : Int32).toInt.toNat = _; omega); have k3 : (9 : Int32).toInt = 9 := (by decide); first | (exfalso; omega) | exact zIt_mk (by simp only [upd]; rw [if_neg (by omega), if_pos (by omega)]) (by simp only [upd]; rw [if_pos (by omega)]) (rfl) (rfl) (by unfold zItv; refine ⟨?_, ?_, ?_, ?_, ?_, ?_, ?_, ?_, ?_, ?_, ?_⟩ <;> (intros; omega)))), (show (∀ j : Nat, j < slot.toInt.toNat → (upd (upd fi slot.toNatClampNeg 9) x_279.toNatClampNeg r_285) j = fi j) from by (intro j hj; have e0 : slot.toNatClampNeg = slot.toInt.toNat + 0 := (by show (slot : Int32).toInt.toNat = _; omega); have e1 : x_279.toNatClampNeg = slot.toInt.toNat + 1 := (by show (x_279 : Int32).toInt.toNat = _; omega); simp only [upd]; rw [if_neg (by omega), if_neg (by omega)])), trivial⟩, by rw [ht]; exact hP.sub (ws' := [(rd, .inr (3, [.ref ri, .ref rl, .int rz, .int rc, .int q_287, .int q_288, .int rt, .int ru])), (rl, .inl (cI, 160, .inl fl)), (ri, .inl (cI, 132, .inl (upd (upd fi slot.toNatClampNeg 9) x_279.toNatClampNeg r_285)))]) [1, 2, 0] rfl, hD.sub (ws' := [(rd, .inr (3, [.ref ri, .ref rl, .int rz, .int rc, .int q_287, .int q_288, .int rt, .int ru])), (rl, .inl (cI, 160, .inl fl)), (ri, .inl (cI, 132, .inl (upd (upd fi slot.toNatClampNeg 9) x_279.toNatClampNeg r_285)))]) [1, 2, 0] (by decide) rfl⟩, hS.F ht⟩) hS.2.2 dX3_readItem_75
  · have fc_7 : r_1.toInt = (-1) := zf_eq c_7 rfl (by decide)
    exact W.vret hx hb hr (fun t ht hW => ⟨⟨(q_3, q_4, rt, ru, fi), rfl, ⟨(show 0 ≤ q_3.toInt ∧ q_3.toInt ≤ 160 from hbq_3), (show (-1) ≤ q_4.toInt ∧ q_4.toInt ≤ 160 from hbq_4), (show 0 ≤ rt.toInt ∧ rt.toInt ≤ 40 from ⟨hy9, hy10⟩), (show 0 ≤ ru.toInt ∧ ru.toInt ≤ 8 from ⟨hy11, hy12⟩), (show q_3.toInt ≤ rz.toInt from by omega), (show (q_4.toInt = -1 → zIt fi slot.toInt.toNat) from by intro h; exfalso; omega), (show (∀ j : Nat, j < slot.toInt.toNat → fi j = fi j) from by exact fun _ _ => rfl), trivial⟩, by rw [ht]; exact hP.sub (ws' := [(rd, .inr (3, [.ref ri, .ref rl, .int rz, .int rc, .int q_3, .int q_4, .int rt, .int ru])), (rl, .inl (cI, 160, .inl fl)), (ri, .inl (cI, 132, .inl fi))]) [1, 2, 0] rfl, hD.sub (ws' := [(rd, .inr (3, [.ref ri, .ref rl, .int rz, .int rc, .int q_3, .int q_4, .int rt, .int ru])), (rl, .inl (cI, 160, .inl fl)), (ri, .inl (cI, 132, .inl fi))]) [1, 2, 0] (by decide) rfl⟩, hS.F ht⟩) hS.2.2 dX3_readItem_10
