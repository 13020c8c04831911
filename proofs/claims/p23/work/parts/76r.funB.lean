section
set_option maxHeartbeats 4000000 in
set_option maxRecDepth 100000 in
theorem c_F_R_readItem (l : Launch) (D : va_G) (cI cJ cZ cP cS : ClassId) (po : zPool) (rd ri rl : Nat) (rz rc rp rf rt ru : Int32) (fl : Nat → Int32) (fi : Nat → Int32) (slot : Int32) (hy0 : 0 ≤ rz.toInt) (hy1 : rz.toInt ≤ 160) (hy2 : 0 ≤ rc.toInt) (hy3 : rc.toInt ≤ 40) (hy4 : 0 ≤ rp.toInt) (hy5 : rp.toInt ≤ 160) (hy6 : rp.toInt ≤ rz.toInt) (hy7 : (-1) ≤ rf.toInt) (hy8 : rf.toInt ≤ 160) (hy9 : 0 ≤ rt.toInt) (hy10 : rt.toInt ≤ 40) (hy11 : 0 ≤ ru.toInt) (hy12 : ru.toInt ≤ 8) (hy13 : 0 ≤ slot.toInt) (hy14 : slot.toInt ≤ 128) (hy15 : rf.toInt = (-1)) (hpz : Nat) : Met l yX3_readItem wsX3_readItem ({ frames := 6, cells := 0, slots := 0, locals := 131 }) (va_Pc [.ref rd, .int slot] (zW D (zKT cI cJ cZ cP cS) po [(rd, .inr (3, [.ref ri, .ref rl, .int rz, .int rc, .int rp, .int rf, .int rt, .int ru])), (rl, .inl (cI, 160, .inl fl)), (ri, .inl (cI, 132, .inl fi))] hpz)) (va_Qv (fun (u : (Int32) × (Int32) × (Int32) × (Int32) × (Nat → Int32)) => (0 ≤ u.1.toInt ∧ u.1.toInt ≤ 160) ∧ ((-1) ≤ u.2.1.toInt ∧ u.2.1.toInt ≤ 160) ∧ (0 ≤ u.2.2.1.toInt ∧ u.2.2.1.toInt ≤ 40) ∧ (0 ≤ u.2.2.2.1.toInt ∧ u.2.2.2.1.toInt ≤ 8) ∧ (u.1.toInt ≤ rz.toInt) ∧ ((u.2.1.toInt = -1 → zIt u.2.2.2.2 slot.toInt.toNat)) ∧ ((∀ j : Nat, j < slot.toInt.toNat → u.2.2.2.2 j = fi j)) ∧ ((u.2.1.toInt = (zItem fl rz.toInt rp.toInt rt.toInt ru.toInt).1 ∧ (u.2.1.toInt = -1 → u.1.toInt = (zItem fl rz.toInt rp.toInt rt.toInt ru.toInt).2.1 ∧ u.2.2.1.toInt = (zItem fl rz.toInt rp.toInt rt.toInt ru.toInt).2.2.1 ∧ u.2.2.2.1.toInt = (zItem fl rz.toInt rp.toInt rt.toInt ru.toInt).2.2.2))) ∧ ((u.2.1.toInt = -1 → ((u.2.2.2.2 slot.toInt.toNat).toInt = 0 → u.2.2.1.toInt = (u.2.2.2.2 (slot.toInt.toNat + 1)).toInt) ∧ ((u.2.2.2.2 slot.toInt.toNat).toInt ≠ 0 → u.2.2.1.toInt = rt.toInt) ∧ ((u.2.2.2.2 slot.toInt.toNat).toInt = 3 → u.2.2.2.1.toInt = ru.toInt + 1) ∧ ((u.2.2.2.2 slot.toInt.toNat).toInt ≠ 3 → u.2.2.2.1.toInt = ru.toInt))) ∧ ((u.2.1.toInt = -1 → zSm (zDS u.2.2.2.2 slot.toInt.toNat) (zIm fl rz.toInt rp.toInt rt.toInt))) ∧ (True)) (zB D [(rd, .inr (3, [.ref ri, .ref rl, .int rz, .int rc, .int rp, .int rf, .int rt, .int ru])), (rl, .inl (cI, 160, .inl fl)), (ri, .inl (cI, 132, .inl fi))] hpz (fun (u : (Int32) × (Int32) × (Int32) × (Int32) × (Nat → Int32)) => [(rd, .inr (3, [.ref ri, .ref rl, .int rz, .int rc, .int u.1, .int u.2.1, .int u.2.2.1, .int u.2.2.2.1])), (rl, .inl (cI, 160, .inl fl)), (ri, .inl (cI, 132, .inl u.2.2.2.2))])) (va_A [(rd, .inr (3, [.ref ri, .ref rl, .int rz, .int rc, .int rp, .int rf, .int rt, .int ru])), (rl, .inl (cI, 160, .inl fl)), (ri, .inl (cI, 132, .inl fi))] hpz)) 0 0 (va_A [(rd, .inr (3, [.ref ri, .ref rl, .int rz, .int rc, .int rp, .int rf, .int rt, .int ru])), (rl, .inl (cI, 160, .inl fl)), (ri, .inl (cI, 132, .inl fi))] hpz) := by
  refine Met.ofW (cc := cX3_readItem) (maxL := 4) (ret := none) (by decide) rfl ?_
  intro p e s m args below meth c s₁ B hml hv
  obtain ⟨rfl, hsz, hP, hK, hD0, hN, hZ⟩ := hv
  have hx := B.exec
  have hb := B.bytes
  have hr := B.returns
  have hts := atoms_spec (ws := wsX3_readItem) B.pre
  have hown : s.vm.findClass RX3 = some m.cls := findClass_of_methodNamed B.named
  have hlocks := B.notSynchronized
  subst hsz
  have hD := hD0.self (sz := s.heap.size)
  have hA := zA_of hD
  have hl := lv_entry ([.ref rd, .int slot]) (n := 4) (Nat.le_of_ble_eq_true rfl)
  rw [lg_entry_eq]
  generalize (lg_sl ([.ref rd, .int slot]) ++ List.replicate (4 - (lg_sl ([.ref rd, .int slot])).length) Slot.unset).toArray = ls at hl ⊢
  replace hl : lv_has ls 4 [(0, .ref rd), (1, .int slot)] := hl
  refine zw_begin hP hD (fun H locs hP1 hS => ?_)
  clear hP
  have hP := hP1
  clear hP1
  refine lv_aload_n hx hb dX3_readItem_0 rfl (lv_at hl 0 rfl) ?_
  skip
  refine zw_V (As := []) (rest := []) (wr := [(ri, .inl (cI, 132, .inl fi))]) ⟨hx, hb, hml, hown, hts⟩ (c_F_R_readWord l D cI cJ cZ cP cS po rd ri rl (rz) (rc) (rp) (rf) (rt) (ru) fl hy0 hy1 hy2 hy3 hy4 hy5 (by omega) hy7 hy8 hy9 hy10 hy11 hy12 H.size) (cwV 0 hts gX3_readItem_X3_readWord rfl rfl rfl ⟨rfl, dh_X3_readWord⟩ ⟨Nat.le_of_ble_eq_true rfl, Nat.le_of_ble_eq_true rfl⟩) hK hN (hZ.kept hS) hP hD hS hA [0, 1] [2] rfl rfl (by decide) (by decide) (by decide) (va_recv (q := (RX3, TX3, 8)) hK hP (ci := 3) (q0 := 0) rfl rfl) rfl hl.1 rfl (Nat.le_of_ble_eq_true rfl) dX3_readItem_1 ⟨Nat.le_of_ble_eq_true rfl, Nat.le_of_ble_eq_true rfl⟩ (fun r_1 u_2 H locs hr_1 hP hD hS => ?_)
  obtain ⟨q_3, q_4⟩ := u_2
  try dsimp only at hr_1
  obtain ⟨hbq_3, hbq_4, hsr_1_0, hsr_1_1, hr_1⟩ := hr_1
  have h9R := zRe (ws' := [(ri, .inl (cI, 132, .inl fi)), (rd, .inr (3, [.ref ri, .ref rl, .int rz, .int rc, .int q_3, .int q_4, .int rt, .int ru])), (rl, .inl (cI, 160, .inl fl))]) hP hD rfl
  clear hP hD
  obtain ⟨hP, hD⟩ := h9R
  obtain ⟨g_5, g_6⟩ := hr_1
  refine lv_istore_n (lv' := [(2, .int r_1), (0, .ref rd), (1, .int slot)]) hx hb dX3_readItem_4 rfl hl (by decide) rfl (fun ls hl => ?_)
  refine lv_iload_n hx hb dX3_readItem_5 rfl (lv_at hl 0 rfl) ?_
  refine lv_iconst (v := (-1)) hx hb dX3_readItem_6 (by decide) ?_
  refine lv_icmp_ne (tgt := 11) hx hb dX3_readItem_7 (by decide) (fun c_7 => ?_) (fun c_7 => ?_)
  · have fc_7 : r_1.toInt ≠ (-1) := zf_ne c_7 rfl (by decide)
    have hsp : r_1 = 0 ∨ r_1 = 1 ∨ r_1 = 2 ∨ r_1 = 3 ∨ r_1 = 4 ∨ r_1 = 5 ∨ r_1 = 6 ∨ r_1 = 7 ∨ r_1 = 8 ∨ r_1 = 9 := by
      rcases (show r_1.toInt = 0 ∨ r_1.toInt = 1 ∨ r_1.toInt = 2 ∨ r_1.toInt = 3 ∨ r_1.toInt = 4 ∨ r_1.toInt = 5 ∨ r_1.toInt = 6 ∨ r_1.toInt = 7 ∨ r_1.toInt = 8 ∨ r_1.toInt = 9 by omega) with h9 | h9 | h9 | h9 | h9 | h9 | h9 | h9 | h9 | h9
      · refine Or.inl ?_; exact zf_val h9 (by decide)
      · refine Or.inr (Or.inl ?_); exact zf_val h9 (by decide)
      · refine Or.inr (Or.inr (Or.inl ?_)); exact zf_val h9 (by decide)
      · refine Or.inr (Or.inr (Or.inr (Or.inl ?_))); exact zf_val h9 (by decide)
      · refine Or.inr (Or.inr (Or.inr (Or.inr (Or.inl ?_)))); exact zf_val h9 (by decide)
      · refine Or.inr (Or.inr (Or.inr (Or.inr (Or.inr (Or.inl ?_))))); exact zf_val h9 (by decide)
      · refine Or.inr (Or.inr (Or.inr (Or.inr (Or.inr (Or.inr (Or.inl ?_)))))); exact zf_val h9 (by decide)
      · refine Or.inr (Or.inr (Or.inr (Or.inr (Or.inr (Or.inr (Or.inr (Or.inl ?_))))))); exact zf_val h9 (by decide)
      · refine Or.inr (Or.inr (Or.inr (Or.inr (Or.inr (Or.inr (Or.inr (Or.inr (Or.inl ?_)))))))); exact zf_val h9 (by decide)
      · refine Or.inr (Or.inr (Or.inr (Or.inr (Or.inr (Or.inr (Or.inr (Or.inr (Or.inr (?_))))))))); exact zf_val h9 (by decide)
    rcases hsp with rfl | rfl | rfl | rfl | rfl | rfl | rfl | rfl | rfl | rfl
    · have kc0 : (0 : Int32).toInt = 0 := by decide
      refine lv_aload_n hx hb dX3_readItem_11 rfl (lv_at hl 1 rfl) ?_
      refine va_get (D := D) (ci := 3) (v := .ref ri) (C := RX3) (T := TX3) (N := 8) hx hb hts hi_X3_readItem_3 hown hK hP 1 rfl rfl 0 (by decide) (hts (.fieldLink RX3 11 "TheLiningsInIt$Reader" "items" "[I") (List.mem_of_getElem? (i := 1) rfl)) (fun _ h9 => h9) rfl dX3_readItem_12 ?_
      refine lv_iload_n hx hb dX3_readItem_15 rfl (lv_at hl 2 rfl) ?_
      refine lv_iload_n hx hb dX3_readItem_16 rfl (lv_at hl 0 rfl) ?_
      refine va_iast hx hb hK hP hD hS 0 0 rfl rfl (zf_in (by omega) (by omega)) dX3_readItem_17 (fun H locs hP hD hS => ?_)
      have h9R := zRe (ws' := [(ri, .inl (cI, 132, .inl (upd fi slot.toNatClampNeg 0))), (rd, .inr (3, [.ref ri, .ref rl, .int rz, .int rc, .int q_3, .int q_4, .int rt, .int ru])), (rl, .inl (cI, 160, .inl fl))]) hP hD rfl
      clear hP hD
      obtain ⟨hP, hD⟩ := h9R
      refine lv_iconst (v := 0) hx hb dX3_readItem_18 (by decide) ?_
      refine lv_istore_n (lv' := [(3, .int 0), (2, .int 0), (0, .ref rd), (1, .int slot)]) hx hb dX3_readItem_19 rfl hl (by decide) rfl (fun ls hl => ?_)
      refine lv_iload_n hx hb dX3_readItem_20 rfl (lv_at hl 0 rfl) ?_
      refine lv_iload_n hx hb dX3_readItem_21 rfl (lv_at hl 1 rfl) ?_
      refine zc_S (As := [.int 0]) (rest := [.int 0]) ⟨hx, hb, hml, hown, hts⟩ (c_R_numbersOf_0 l D cI cJ cZ cP cS po  ) (va_cwS 1 hts gX3_readItem_X3_numbersOf rfl rfl rfl dh_X3_numbersOf ⟨Nat.le_of_ble_eq_true rfl, Nat.le_of_ble_eq_true rfl⟩) hK hN (hZ.kept hS) rfl hl.1 rfl (Nat.le_of_ble_eq_true rfl) dX3_readItem_22 ⟨Nat.le_of_ble_eq_true rfl, Nat.le_of_ble_eq_true rfl⟩ (fun r_8 hr_8 => ?_)
      obtain rfl := hr_8
      refine lv_icmp_ge (tgt := 82) hx hb dX3_readItem_25 (by decide) (fun c_9 => ?_) (fun c_9 => ?_)
      · exact absurd c_9 (by decide)
      · refine lv_aload_n hx hb dX3_readItem_28 rfl (lv_at hl 2 rfl) ?_
        refine lv_bipush (v := 32) hx hb dX3_readItem_29 (by decide) ?_
        have kc32 : (32 : Int32).toInt = 32 := by decide
        skip
        refine zw_Vv (As := [.int 32]) (rest := []) (wr := [(ri, .inl (cI, 132, .inl (upd fi slot.toNatClampNeg 0)))]) ⟨hx, hb, hml, hown, hts⟩ (c_F_R_expect l D cI cJ cZ cP cS po rd ri rl (rz) (rc) (q_3) (q_4) (rt) (ru) fl (32) hy0 hy1 hy2 hy3 hbq_3.1 hbq_3.2 (by omega) hbq_4.1 hbq_4.2 hy9 hy10 hy11 hy12 H.size) (cwV 1 hts gX3_readItem_X3_expect rfl rfl rfl ⟨rfl, dh_X3_expect⟩ ⟨Nat.le_of_ble_eq_true rfl, Nat.le_of_ble_eq_true rfl⟩) hK hN (hZ.kept hS) hP hD hS hA [1, 2] [0] rfl rfl (by decide) (by decide) (by decide) (va_recv (q := (RX3, TX3, 8)) hK hP (ci := 3) (q0 := 1) rfl rfl) rfl hl.1 rfl (Nat.le_of_ble_eq_true rfl) dX3_readItem_31 ⟨Nat.le_of_ble_eq_true rfl, Nat.le_of_ble_eq_true rfl⟩ (fun u_11 H locs hr_10 hP hD hS => ?_)
        obtain ⟨q_12, q_13⟩ := u_11
        try dsimp only at hr_10
        obtain ⟨hbq_12, hbq_13, hsr_10_0, hsr_10_1, hr_10⟩ := hr_10
        have h9R := zRe (ws' := [(ri, .inl (cI, 132, .inl (upd fi slot.toNatClampNeg 0))), (rd, .inr (3, [.ref ri, .ref rl, .int rz, .int rc, .int q_12, .int q_13, .int rt, .int ru])), (rl, .inl (cI, 160, .inl fl))]) hP hD rfl
        clear hP hD
        obtain ⟨hP, hD⟩ := h9R
        refine lv_aload_n hx hb dX3_readItem_34 rfl (lv_at hl 2 rfl) ?_
        refine va_get (D := D) (ci := 3) (v := .int q_13) (C := RX3) (T := TX3) (N := 8) hx hb hts hi_X3_readItem_3 hown hK hP 1 rfl rfl 5 (by decide) (hts (.fieldLink RX3 28 "TheLiningsInIt$Reader" "fault" "I") (List.mem_of_getElem? (i := 2) rfl)) (fun _ h9 => h9) rfl dX3_readItem_35 ?_
        refine lv_iconst (v := (-1)) hx hb dX3_readItem_38 (by decide) ?_
        refine lv_icmp_ne (tgt := 67) hx hb dX3_readItem_39 (by decide) (fun c_14 => ?_) (fun c_14 => ?_)
        · have fc_14 : q_13.toInt ≠ (-1) := zf_ne c_14 rfl (by decide)
          have hn0 : zN1 fl rz.toInt (q_3 : Int32).toInt (zLo 0 0) (zHi 0 0 rt.toInt) = ((q_3 : Int32).toInt, (q_3 : Int32).toInt, 0) := zN1_no (by omega)
          refine lv_aload_n hx hb dX3_readItem_67 rfl (lv_at hl 2 rfl) ?_
          refine va_get (D := D) (ci := 3) (v := .int q_13) (C := RX3) (T := TX3) (N := 8) hx hb hts hi_X3_readItem_3 hown hK hP 1 rfl rfl 5 (by decide) (hts (.fieldLink RX3 28 "TheLiningsInIt$Reader" "fault" "I") (List.mem_of_getElem? (i := 2) rfl)) (fun _ h9 => h9) rfl dX3_readItem_68 ?_
          refine lv_iconst (v := (-1)) hx hb dX3_readItem_71 (by decide) ?_
          refine lv_icmp_eq (tgt := 76) hx hb dX3_readItem_72 (by decide) (fun c_15 => ?_) (fun c_15 => ?_)
          · exfalso; have fc_15 : q_13.toInt = (-1) := zf_eq c_15 rfl (by decide); omega
          · have fc_15 : q_13.toInt ≠ (-1) := zf_ne c_15 rfl (by decide)
            have e0 : slot.toNatClampNeg = slot.toInt.toNat + 0 := (by show (slot : Int32).toInt.toNat = _; omega)
            have hI := zIn_a hn0 (by first | (right; decide) | (left; omega))
            exact W.vret hx hb hr (fun t ht hW => ⟨⟨(q_12, q_13, rt, ru, (upd fi slot.toNatClampNeg 0)), rfl, ⟨(show 0 ≤ q_12.toInt ∧ q_12.toInt ≤ 160 from hbq_12), (show (-1) ≤ q_13.toInt ∧ q_13.toInt ≤ 160 from hbq_13), (show 0 ≤ rt.toInt ∧ rt.toInt ≤ 40 from ⟨hy9, hy10⟩), (show 0 ≤ ru.toInt ∧ ru.toInt ≤ 8 from ⟨hy11, hy12⟩), (show q_12.toInt ≤ rz.toInt from by omega), (show (q_13.toInt = -1 → zIt (upd fi slot.toNatClampNeg 0) slot.toInt.toNat) from by (intro h; exfalso; omega)), (show (∀ j : Nat, j < slot.toInt.toNat → (upd fi slot.toNatClampNeg 0) j = fi j) from by (intro j hj; simp only [upd]; rw [if_neg (by omega)])), (show (q_13.toInt = (zItem fl rz.toInt rp.toInt rt.toInt ru.toInt).1 ∧ (q_13.toInt = -1 → q_12.toInt = (zItem fl rz.toInt rp.toInt rt.toInt ru.toInt).2.1 ∧ rt.toInt = (zItem fl rz.toInt rp.toInt rt.toInt ru.toInt).2.2.1 ∧ ru.toInt = (zItem fl rz.toInt rp.toInt rt.toInt ru.toInt).2.2.2)) from by (have z9 := hsr_1_1; rw [kc0] at z9; have hq : zFst fl rz.toInt rp.toInt zWds 10 = 0 ∧ ¬ ((0 : Int) = 3 ∧ ru.toInt = 8) := (by omega); have hl9 : (q_3 : Int32).toInt = rp.toInt + ((zWds ((0 : Int)).toNat).length : Nat) := (by omega); rw [zItem_w hq.1 (by decide) hq.2 hl9 hI]; dsimp only; exact ⟨by (first | rfl | omega), fun h => ⟨by (first | rfl | omega), by (show _ = (if (0 : Int) = 0 then _ else _); first | (rw [if_pos rfl]; done) | (rw [if_pos rfl]; first | rfl | omega)), by (show _ = (if (0 : Int) = 3 then _ else _); rw [if_neg (by decide)])⟩⟩)), (show (q_13.toInt = -1 → (((upd fi slot.toNatClampNeg 0) slot.toInt.toNat).toInt = 0 → rt.toInt = ((upd fi slot.toNatClampNeg 0) (slot.toInt.toNat + 1)).toInt) ∧ (((upd fi slot.toNatClampNeg 0) slot.toInt.toNat).toInt ≠ 0 → rt.toInt = rt.toInt) ∧ (((upd fi slot.toNatClampNeg 0) slot.toInt.toNat).toInt = 3 → ru.toInt = ru.toInt + 1) ∧ (((upd fi slot.toNatClampNeg 0) slot.toInt.toNat).toInt ≠ 3 → ru.toInt = ru.toInt)) from by (intro h; exfalso; omega)), (show (q_13.toInt = -1 → zSm (zDS (upd fi slot.toNatClampNeg 0) slot.toInt.toNat) (zIm fl rz.toInt rp.toInt rt.toInt)) from by (intro h; exfalso; omega)), trivial⟩, zRet ht hP hD [1, 2, 0] (by decide) rfl⟩, hS.F ht⟩) hS.2.2 dX3_readItem_75
        · have fc_14 : q_13.toInt = (-1) := zf_eq c_14 rfl (by decide)
          refine lv_aload_n hx hb dX3_readItem_42 rfl (lv_at hl 2 rfl) ?_
          refine va_get (D := D) (ci := 3) (v := .ref ri) (C := RX3) (T := TX3) (N := 8) hx hb hts hi_X3_readItem_3 hown hK hP 1 rfl rfl 0 (by decide) (hts (.fieldLink RX3 11 "TheLiningsInIt$Reader" "items" "[I") (List.mem_of_getElem? (i := 1) rfl)) (fun _ h9 => h9) rfl dX3_readItem_43 ?_
          refine lv_iload_n hx hb dX3_readItem_46 rfl (lv_at hl 3 rfl) ?_
          refine lv_iconst (v := 1) hx hb dX3_readItem_47 (by decide) ?_
          refine lv_iadd hx hb dX3_readItem_48 ?_
          refine lv_topi (fun x_16 ex_16 => ?_)
          have qx_16 : x_16.toInt = slot.toInt + 1 := by rw [ex_16]; exact zf_add rfl (by decide) (by omega) (by omega)
          refine lv_iload_n hx hb dX3_readItem_49 rfl (lv_at hl 0 rfl) ?_
          refine lv_iadd hx hb dX3_readItem_50 ?_
          refine lv_topi (fun y_17 ey_17 => ?_)
          obtain rfl : x_16 = y_17 := (ey_17.trans (Int32.add_zero x_16)).symm
          refine lv_aload_n hx hb dX3_readItem_51 rfl (lv_at hl 2 rfl) ?_
          refine lv_iload_n hx hb dX3_readItem_52 rfl (lv_at hl 1 rfl) ?_
          refine lv_iload_n hx hb dX3_readItem_53 rfl (lv_at hl 0 rfl) ?_
          refine zc_S (As := [.int 0, .int 0]) (rest := [.ref rd, .int x_16, .ref ri]) ⟨hx, hb, hml, hown, hts⟩ (c_R_leastOf_0_0 l D cI cJ cZ cP cS po  ) (va_cwS 2 hts gX3_readItem_X3_leastOf rfl rfl rfl dh_X3_leastOf ⟨Nat.le_of_ble_eq_true rfl, Nat.le_of_ble_eq_true rfl⟩) hK hN (hZ.kept hS) rfl hl.1 rfl (Nat.le_of_ble_eq_true rfl) dX3_readItem_54 ⟨Nat.le_of_ble_eq_true rfl, Nat.le_of_ble_eq_true rfl⟩ (fun r_18 hr_18 => ?_)
          obtain rfl := hr_18
          refine lv_aload_n hx hb dX3_readItem_57 rfl (lv_at hl 2 rfl) ?_
          refine lv_iload_n hx hb dX3_readItem_58 rfl (lv_at hl 1 rfl) ?_
          refine lv_iload_n hx hb dX3_readItem_59 rfl (lv_at hl 0 rfl) ?_
          refine zc_V (As := [.int 0, .int 0]) (rest := [.int 4, .ref rd, .int x_16, .ref ri]) ⟨hx, hb, hml, hown, hts⟩ (c_R_mostOf_0_0 l D cI cJ cZ cP cS po rd ri rl (rz) (rc) (q_12) (q_13) (rt) (ru) hy0 hy1 hy2 hy3 hbq_12.1 hbq_12.2 (by omega) hbq_13.1 hbq_13.2 hy9 hy10 hy11 hy12) (cwV 2 hts gX3_readItem_X3_mostOf rfl rfl rfl ⟨rfl, dh_X3_mostOf⟩ ⟨Nat.le_of_ble_eq_true rfl, Nat.le_of_ble_eq_true rfl⟩) hK hN (hZ.kept hS) hP (hP.sub [1] rfl) (va_recv (q := (RX3, TX3, 8)) hK hP (ci := 3) (q0 := 1) rfl rfl) rfl hl.1 rfl (Nat.le_of_ble_eq_true rfl) dX3_readItem_60 ⟨Nat.le_of_ble_eq_true rfl, Nat.le_of_ble_eq_true rfl⟩ (fun r_19 hr_19 => ?_)
          obtain rfl := hr_19
          have kc4 : (4 : Int32).toInt = 4 := by decide
          have kc40 : (40 : Int32).toInt = 40 := by decide
          skip
          refine zw_V (As := [.int 4, .int 40]) (rest := [.int x_16, .ref ri]) (wr := [(ri, .inl (cI, 132, .inl (upd fi slot.toNatClampNeg 0)))]) ⟨hx, hb, hml, hown, hts⟩ (c_F_R_readNumber l D cI cJ cZ cP cS po rd ri rl (rz) (rc) (q_12) (q_13) (rt) (ru) fl (4) (40) hy0 hy1 hy2 hy3 hbq_12.1 hbq_12.2 (by omega) hbq_13.1 hbq_13.2 hy9 hy10 hy11 hy12 H.size) (cwV 2 hts gX3_readItem_X3_readNumber rfl rfl rfl ⟨rfl, dh_X3_readNumber⟩ ⟨Nat.le_of_ble_eq_true rfl, Nat.le_of_ble_eq_true rfl⟩) hK hN (hZ.kept hS) hP hD hS hA [1, 2] [0] rfl rfl (by decide) (by decide) (by decide) (va_recv (q := (RX3, TX3, 8)) hK hP (ci := 3) (q0 := 1) rfl rfl) rfl hl.1 rfl (Nat.le_of_ble_eq_true rfl) dX3_readItem_63 ⟨Nat.le_of_ble_eq_true rfl, Nat.le_of_ble_eq_true rfl⟩ (fun r_20 u_21 H locs hr_20 hP hD hS => ?_)
          obtain ⟨q_22, q_23⟩ := u_21
          try dsimp only at hr_20
          obtain ⟨hbq_22, hbq_23, hsr_20_0, hsr_20_1, hsr_20_2, hsr_20_3, hr_20⟩ := hr_20
          have h9R := zRe (ws' := [(ri, .inl (cI, 132, .inl (upd fi slot.toNatClampNeg 0))), (rd, .inr (3, [.ref ri, .ref rl, .int rz, .int rc, .int q_22, .int q_23, .int rt, .int ru])), (rl, .inl (cI, 160, .inl fl))]) hP hD rfl
          clear hP hD
          obtain ⟨hP, hD⟩ := h9R
          obtain ⟨g_24, g_25⟩ := hr_20
          refine va_iast hx hb hK hP hD hS 0 0 rfl rfl (zf_in (by omega) (by omega)) dX3_readItem_66 (fun H locs hP hD hS => ?_)
          have h9R := zRe (ws' := [(ri, .inl (cI, 132, .inl (upd (upd fi slot.toNatClampNeg 0) x_16.toNatClampNeg r_20))), (rd, .inr (3, [.ref ri, .ref rl, .int rz, .int rc, .int q_22, .int q_23, .int rt, .int ru])), (rl, .inl (cI, 160, .inl fl))]) hP hD rfl
          clear hP hD
          obtain ⟨hP, hD⟩ := h9R
          have hn0 : zN1 fl rz.toInt (q_3 : Int32).toInt (zLo 0 0) (zHi 0 0 rt.toInt) = ((q_23 : Int32).toInt, (q_22 : Int32).toInt, r_20.toInt) := zN1_yes (p1 := (q_12 : Int32).toInt) (lo2 := ((4 : Int32)).toInt) (hi2 := ((40 : Int32)).toInt) (by omega) (by omega) hsr_20_1 hsr_20_2 (by first | decide | (show (0 : Int) = _; omega)) (by first | decide | (show (40 : Int) = _; decide) | (show rt.toInt - 1 = _; omega) | (show rt.toInt = _; omega)) (by omega)
          refine lv_aload_n hx hb dX3_readItem_67 rfl (lv_at hl 2 rfl) ?_
          refine va_get (D := D) (ci := 3) (v := .int q_23) (C := RX3) (T := TX3) (N := 8) hx hb hts hi_X3_readItem_3 hown hK hP 1 rfl rfl 5 (by decide) (hts (.fieldLink RX3 28 "TheLiningsInIt$Reader" "fault" "I") (List.mem_of_getElem? (i := 2) rfl)) (fun _ h9 => h9) rfl dX3_readItem_68 ?_
          refine lv_iconst (v := (-1)) hx hb dX3_readItem_71 (by decide) ?_
          refine lv_icmp_eq (tgt := 76) hx hb dX3_readItem_72 (by decide) (fun c_26 => ?_) (fun c_26 => ?_)
          · have fc_26 : q_23.toInt = (-1) := zf_eq c_26 rfl (by decide)
            refine lv_iinc (v := 1) (lv' := [(3, .int 1), (2, .int 0), (0, .ref rd), (1, .int slot)]) hx hb dX3_readItem_76 hl (k := 0) rfl (by decide) (by decide) rfl (fun ls hl => ?_)
            refine lv_goto (tgt := 20) hx hb dX3_readItem_79 (by decide) ?_
            refine lv_iload_n hx hb dX3_readItem_20 rfl (lv_at hl 0 rfl) ?_
            refine lv_iload_n hx hb dX3_readItem_21 rfl (lv_at hl 1 rfl) ?_
            refine zc_S (As := [.int 0]) (rest := [.int 1]) ⟨hx, hb, hml, hown, hts⟩ (c_R_numbersOf_0 l D cI cJ cZ cP cS po  ) (va_cwS 1 hts gX3_readItem_X3_numbersOf rfl rfl rfl dh_X3_numbersOf ⟨Nat.le_of_ble_eq_true rfl, Nat.le_of_ble_eq_true rfl⟩) hK hN (hZ.kept hS) rfl hl.1 rfl (Nat.le_of_ble_eq_true rfl) dX3_readItem_22 ⟨Nat.le_of_ble_eq_true rfl, Nat.le_of_ble_eq_true rfl⟩ (fun r_27 hr_27 => ?_)
            obtain rfl := hr_27
            refine lv_icmp_ge (tgt := 82) hx hb dX3_readItem_25 (by decide) (fun c_28 => ?_) (fun c_28 => ?_)
            · refine lv_iload_n hx hb dX3_readItem_82 rfl (lv_at hl 1 rfl) ?_
              refine lv_if_ne (tgt := 101) hx hb dX3_readItem_83 (by decide) (fun c_29 => ?_) (fun c_29 => ?_)
              · exact absurd c_29 (by decide)
              · refine lv_aload_n hx hb dX3_readItem_86 rfl (lv_at hl 2 rfl) ?_
                refine lv_aload_n hx hb dX3_readItem_87 rfl (lv_at hl 2 rfl) ?_
                refine va_get (D := D) (ci := 3) (v := .ref ri) (C := RX3) (T := TX3) (N := 8) hx hb hts hi_X3_readItem_3 hown hK hP 1 rfl rfl 0 (by decide) (hts (.fieldLink RX3 11 "TheLiningsInIt$Reader" "items" "[I") (List.mem_of_getElem? (i := 1) rfl)) (fun _ h9 => h9) rfl dX3_readItem_88 ?_
                refine lv_iload_n hx hb dX3_readItem_91 rfl (lv_at hl 3 rfl) ?_
                refine lv_iconst (v := 1) hx hb dX3_readItem_92 (by decide) ?_
                refine lv_iadd hx hb dX3_readItem_93 ?_
                refine lv_topi (fun y_30 ey_30 => ?_)
                obtain rfl : x_16 = y_30 := ex_16.trans ey_30.symm
                refine va_iald hx hb hK hP 0 0 rfl rfl (zf_in (by omega) (by omega)) dX3_readItem_94 ?_
                refine lv_topi (fun x_31 ex_31 => ?_)
                obtain rfl : r_20 = x_31 := (ex_31.trans (by simp [upd])).symm
                refine va_put (D := D) (ci := 3) (v := .int r_20) (ty := .int) (C := RX3) (T := TX3) (N := 8) hx hb hts hi_X3_readItem_3 tyX3 tyX3_ok nmX3 hown hK hP hD hS 1 rfl rfl 6 (by decide) (hts (.fieldLink RX3 31 "TheLiningsInIt$Reader" "teeth" "I") (List.mem_of_getElem? (i := 3) rfl)) (fun _ h9 => h9) rfl (tyX3_ok 6 (Nat.le_of_ble_eq_true rfl)) rfl rfl (Nat.le_of_ble_eq_true rfl) dX3_readItem_95 (fun H locs hP hD hS => ?_)
                have h9R := zRe (ws' := [(ri, .inl (cI, 132, .inl (upd (upd fi slot.toNatClampNeg 0) x_16.toNatClampNeg r_20))), (rd, .inr (3, [.ref ri, .ref rl, .int rz, .int rc, .int q_22, .int q_23, .int r_20, .int ru])), (rl, .inl (cI, 160, .inl fl))]) hP hD rfl
                clear hP hD
                obtain ⟨hP, hD⟩ := h9R
                refine lv_goto (tgt := 116) hx hb dX3_readItem_98 (by decide) ?_
                have e0 : slot.toNatClampNeg = slot.toInt.toNat + 0 := (by show (slot : Int32).toInt.toNat = _; omega)
                have e1 : x_16.toNatClampNeg = slot.toInt.toNat + 1 := (by show (x_16 : Int32).toInt.toNat = _; omega)
                have hI := zIn_a hn0 (by first | (right; decide) | (left; omega))
                exact W.vret hx hb hr (fun t ht hW => ⟨⟨(q_22, q_23, r_20, ru, (upd (upd fi slot.toNatClampNeg 0) x_16.toNatClampNeg r_20)), rfl, ⟨(show 0 ≤ q_22.toInt ∧ q_22.toInt ≤ 160 from hbq_22), (show (-1) ≤ q_23.toInt ∧ q_23.toInt ≤ 160 from hbq_23), (show 0 ≤ r_20.toInt ∧ r_20.toInt ≤ 40 from ⟨by omega, by omega⟩), (show 0 ≤ ru.toInt ∧ ru.toInt ≤ 8 from ⟨hy11, hy12⟩), (show q_22.toInt ≤ rz.toInt from by omega), (show (q_23.toInt = -1 → zIt (upd (upd fi slot.toNatClampNeg 0) x_16.toNatClampNeg r_20) slot.toInt.toNat) from by (intro h; have k3 : (0 : Int32).toInt = 0 := (by decide); exact zIt_mk (by simp only [upd]; rw [if_neg (by omega), if_pos (by omega)]) (by simp only [upd]; rw [if_pos (by omega)]) (rfl) (rfl) (by unfold zItv; refine ⟨?_, ?_, ?_, ?_, ?_, ?_, ?_, ?_, ?_, ?_, ?_⟩ <;> (intros; omega)))), (show (∀ j : Nat, j < slot.toInt.toNat → (upd (upd fi slot.toNatClampNeg 0) x_16.toNatClampNeg r_20) j = fi j) from by (intro j hj; simp only [upd]; rw [if_neg (by omega), if_neg (by omega)])), (show (q_23.toInt = (zItem fl rz.toInt rp.toInt rt.toInt ru.toInt).1 ∧ (q_23.toInt = -1 → q_22.toInt = (zItem fl rz.toInt rp.toInt rt.toInt ru.toInt).2.1 ∧ r_20.toInt = (zItem fl rz.toInt rp.toInt rt.toInt ru.toInt).2.2.1 ∧ ru.toInt = (zItem fl rz.toInt rp.toInt rt.toInt ru.toInt).2.2.2)) from by (have z9 := hsr_1_1; rw [kc0] at z9; have hq : zFst fl rz.toInt rp.toInt zWds 10 = 0 ∧ ¬ ((0 : Int) = 3 ∧ ru.toInt = 8) := (by omega); have hl9 : (q_3 : Int32).toInt = rp.toInt + ((zWds ((0 : Int)).toNat).length : Nat) := (by omega); rw [zItem_w hq.1 (by decide) hq.2 hl9 hI]; dsimp only; exact ⟨by (first | rfl | omega), fun h => ⟨by (first | rfl | omega), by (show _ = (if (0 : Int) = 0 then _ else _); first | (rw [if_pos rfl]; done) | (rw [if_pos rfl]; first | rfl | omega)), by (show _ = (if (0 : Int) = 3 then _ else _); rw [if_neg (by decide)])⟩⟩)), (show (q_23.toInt = -1 → (((upd (upd fi slot.toNatClampNeg 0) x_16.toNatClampNeg r_20) slot.toInt.toNat).toInt = 0 → r_20.toInt = ((upd (upd fi slot.toNatClampNeg 0) x_16.toNatClampNeg r_20) (slot.toInt.toNat + 1)).toInt) ∧ (((upd (upd fi slot.toNatClampNeg 0) x_16.toNatClampNeg r_20) slot.toInt.toNat).toInt ≠ 0 → r_20.toInt = rt.toInt) ∧ (((upd (upd fi slot.toNatClampNeg 0) x_16.toNatClampNeg r_20) slot.toInt.toNat).toInt = 3 → ru.toInt = ru.toInt + 1) ∧ (((upd (upd fi slot.toNatClampNeg 0) x_16.toNatClampNeg r_20) slot.toInt.toNat).toInt ≠ 3 → ru.toInt = ru.toInt)) from by (intro h; have g0 : (upd (upd fi slot.toNatClampNeg 0) x_16.toNatClampNeg r_20) slot.toInt.toNat = (0 : Int32) := (by simp only [upd]; rw [if_neg (by omega), if_pos (by omega)]); have g1 : (upd (upd fi slot.toNatClampNeg 0) x_16.toNatClampNeg r_20) (slot.toInt.toNat + 1) = (r_20 : Int32) := (by simp only [upd]; rw [if_pos (by omega)]); rw [g0, g1]; refine ⟨?_, ?_, ?_, ?_⟩ <;> (intro h9; first | rfl | omega | (exfalso; omega)))), (show (q_23.toInt = -1 → zSm (zDS (upd (upd fi slot.toNatClampNeg 0) x_16.toNatClampNeg r_20) slot.toInt.toNat) (zIm fl rz.toInt rp.toInt rt.toInt)) from by (intro h; have g0 : (upd (upd fi slot.toNatClampNeg 0) x_16.toNatClampNeg r_20) (slot.toInt.toNat + 0) = (0 : Int32) := (by simp only [upd]; rw [if_neg (by omega), if_pos (by omega)]); have g1 : (upd (upd fi slot.toNatClampNeg 0) x_16.toNatClampNeg r_20) (slot.toInt.toNat + 1) = (r_20 : Int32) := (by simp only [upd]; rw [if_pos (by omega)]); have z9 := hsr_1_1; rw [kc0] at z9; have hW : zIW fl rz.toInt rp.toInt = 0 := (by unfold zIW; omega); have hP9 : zIP fl rz.toInt rp.toInt = (q_3 : Int32).toInt := (by unfold zIP; rw [hW]; have hl9 : (q_3 : Int32).toInt = rp.toInt + ((zWds ((0 : Int)).toNat).length : Nat) := (by omega); exact hl9.symm); exact ⟨(show ((upd (upd fi slot.toNatClampNeg 0) x_16.toNatClampNeg r_20) (slot.toInt.toNat + 0)).toInt = zIW fl rz.toInt rp.toInt from by (rw [g0, hW]; omega)), (show ((upd (upd fi slot.toNatClampNeg 0) x_16.toNatClampNeg r_20) (slot.toInt.toNat + 1)).toInt = (zIn fl rz.toInt (zIP fl rz.toInt rp.toInt) rt.toInt (zIW fl rz.toInt rp.toInt)).2.2 from by (rw [g1, hP9, hW, hI])), fun hz => absurd (show ((upd (upd fi slot.toNatClampNeg 0) x_16.toNatClampNeg r_20) (slot.toInt.toNat + 0)).toInt = 2 ∨ ((upd (upd fi slot.toNatClampNeg 0) x_16.toNatClampNeg r_20) (slot.toInt.toNat + 0)).toInt = 3 ∨ ((upd (upd fi slot.toNatClampNeg 0) x_16.toNatClampNeg r_20) (slot.toInt.toNat + 0)).toInt = 8 from hz) (by rw [g0]; omega), fun hz => absurd (show ((upd (upd fi slot.toNatClampNeg 0) x_16.toNatClampNeg r_20) (slot.toInt.toNat + 0)).toInt = 3 from hz) (by rw [g0]; omega)⟩)), trivial⟩, zRet ht hP hD [1, 2, 0] (by decide) rfl⟩, hS.F ht⟩) hS.2.2 dX3_readItem_116
            · exact absurd c_28 (by decide)
          · have fc_26 : q_23.toInt ≠ (-1) := zf_ne c_26 rfl (by decide)
            have e0 : slot.toNatClampNeg = slot.toInt.toNat + 0 := (by show (slot : Int32).toInt.toNat = _; omega)
            have e1 : x_16.toNatClampNeg = slot.toInt.toNat + 1 := (by show (x_16 : Int32).toInt.toNat = _; omega)
            have hI := zIn_a hn0 (by first | (right; decide) | (left; omega))
            exact W.vret hx hb hr (fun t ht hW => ⟨⟨(q_22, q_23, rt, ru, (upd (upd fi slot.toNatClampNeg 0) x_16.toNatClampNeg r_20)), rfl, ⟨(show 0 ≤ q_22.toInt ∧ q_22.toInt ≤ 160 from hbq_22), (show (-1) ≤ q_23.toInt ∧ q_23.toInt ≤ 160 from hbq_23), (show 0 ≤ rt.toInt ∧ rt.toInt ≤ 40 from ⟨hy9, hy10⟩), (show 0 ≤ ru.toInt ∧ ru.toInt ≤ 8 from ⟨hy11, hy12⟩), (show q_22.toInt ≤ rz.toInt from by omega), (show (q_23.toInt = -1 → zIt (upd (upd fi slot.toNatClampNeg 0) x_16.toNatClampNeg r_20) slot.toInt.toNat) from by (intro h; exfalso; omega)), (show (∀ j : Nat, j < slot.toInt.toNat → (upd (upd fi slot.toNatClampNeg 0) x_16.toNatClampNeg r_20) j = fi j) from by (intro j hj; simp only [upd]; rw [if_neg (by omega), if_neg (by omega)])), (show (q_23.toInt = (zItem fl rz.toInt rp.toInt rt.toInt ru.toInt).1 ∧ (q_23.toInt = -1 → q_22.toInt = (zItem fl rz.toInt rp.toInt rt.toInt ru.toInt).2.1 ∧ rt.toInt = (zItem fl rz.toInt rp.toInt rt.toInt ru.toInt).2.2.1 ∧ ru.toInt = (zItem fl rz.toInt rp.toInt rt.toInt ru.toInt).2.2.2)) from by (have z9 := hsr_1_1; rw [kc0] at z9; have hq : zFst fl rz.toInt rp.toInt zWds 10 = 0 ∧ ¬ ((0 : Int) = 3 ∧ ru.toInt = 8) := (by omega); have hl9 : (q_3 : Int32).toInt = rp.toInt + ((zWds ((0 : Int)).toNat).length : Nat) := (by omega); rw [zItem_w hq.1 (by decide) hq.2 hl9 hI]; dsimp only; exact ⟨by (first | rfl | omega), fun h => ⟨by (first | rfl | omega), by (show _ = (if (0 : Int) = 0 then _ else _); first | (rw [if_pos rfl]; done) | (rw [if_pos rfl]; first | rfl | omega)), by (show _ = (if (0 : Int) = 3 then _ else _); rw [if_neg (by decide)])⟩⟩)), (show (q_23.toInt = -1 → (((upd (upd fi slot.toNatClampNeg 0) x_16.toNatClampNeg r_20) slot.toInt.toNat).toInt = 0 → rt.toInt = ((upd (upd fi slot.toNatClampNeg 0) x_16.toNatClampNeg r_20) (slot.toInt.toNat + 1)).toInt) ∧ (((upd (upd fi slot.toNatClampNeg 0) x_16.toNatClampNeg r_20) slot.toInt.toNat).toInt ≠ 0 → rt.toInt = rt.toInt) ∧ (((upd (upd fi slot.toNatClampNeg 0) x_16.toNatClampNeg r_20) slot.toInt.toNat).toInt = 3 → ru.toInt = ru.toInt + 1) ∧ (((upd (upd fi slot.toNatClampNeg 0) x_16.toNatClampNeg r_20) slot.toInt.toNat).toInt ≠ 3 → ru.toInt = ru.toInt)) from by (intro h; exfalso; omega)), (show (q_23.toInt = -1 → zSm (zDS (upd (upd fi slot.toNatClampNeg 0) x_16.toNatClampNeg r_20) slot.toInt.toNat) (zIm fl rz.toInt rp.toInt rt.toInt)) from by (intro h; exfalso; omega)), trivial⟩, zRet ht hP hD [1, 2, 0] (by decide) rfl⟩, hS.F ht⟩) hS.2.2 dX3_readItem_75
    · have kc1 : (1 : Int32).toInt = 1 := by decide
      refine lv_aload_n hx hb dX3_readItem_11 rfl (lv_at hl 1 rfl) ?_
      refine va_get (D := D) (ci := 3) (v := .ref ri) (C := RX3) (T := TX3) (N := 8) hx hb hts hi_X3_readItem_3 hown hK hP 1 rfl rfl 0 (by decide) (hts (.fieldLink RX3 11 "TheLiningsInIt$Reader" "items" "[I") (List.mem_of_getElem? (i := 1) rfl)) (fun _ h9 => h9) rfl dX3_readItem_12 ?_
      refine lv_iload_n hx hb dX3_readItem_15 rfl (lv_at hl 2 rfl) ?_
      refine lv_iload_n hx hb dX3_readItem_16 rfl (lv_at hl 0 rfl) ?_
      refine va_iast hx hb hK hP hD hS 0 0 rfl rfl (zf_in (by omega) (by omega)) dX3_readItem_17 (fun H locs hP hD hS => ?_)
      have h9R := zRe (ws' := [(ri, .inl (cI, 132, .inl (upd fi slot.toNatClampNeg 1))), (rd, .inr (3, [.ref ri, .ref rl, .int rz, .int rc, .int q_3, .int q_4, .int rt, .int ru])), (rl, .inl (cI, 160, .inl fl))]) hP hD rfl
      clear hP hD
      obtain ⟨hP, hD⟩ := h9R
      refine lv_iconst (v := 0) hx hb dX3_readItem_18 (by decide) ?_
      refine lv_istore_n (lv' := [(3, .int 0), (2, .int 1), (0, .ref rd), (1, .int slot)]) hx hb dX3_readItem_19 rfl hl (by decide) rfl (fun ls hl => ?_)
      refine lv_iload_n hx hb dX3_readItem_20 rfl (lv_at hl 0 rfl) ?_
      refine lv_iload_n hx hb dX3_readItem_21 rfl (lv_at hl 1 rfl) ?_
      refine zc_S (As := [.int 1]) (rest := [.int 0]) ⟨hx, hb, hml, hown, hts⟩ (c_R_numbersOf_1 l D cI cJ cZ cP cS po  ) (va_cwS 1 hts gX3_readItem_X3_numbersOf rfl rfl rfl dh_X3_numbersOf ⟨Nat.le_of_ble_eq_true rfl, Nat.le_of_ble_eq_true rfl⟩) hK hN (hZ.kept hS) rfl hl.1 rfl (Nat.le_of_ble_eq_true rfl) dX3_readItem_22 ⟨Nat.le_of_ble_eq_true rfl, Nat.le_of_ble_eq_true rfl⟩ (fun r_32 hr_32 => ?_)
      obtain rfl := hr_32
      refine lv_icmp_ge (tgt := 82) hx hb dX3_readItem_25 (by decide) (fun c_33 => ?_) (fun c_33 => ?_)
      · exact absurd c_33 (by decide)
      · refine lv_aload_n hx hb dX3_readItem_28 rfl (lv_at hl 2 rfl) ?_
        refine lv_bipush (v := 32) hx hb dX3_readItem_29 (by decide) ?_
        have kc32 : (32 : Int32).toInt = 32 := by decide
        skip
        refine zw_Vv (As := [.int 32]) (rest := []) (wr := [(ri, .inl (cI, 132, .inl (upd fi slot.toNatClampNeg 1)))]) ⟨hx, hb, hml, hown, hts⟩ (c_F_R_expect l D cI cJ cZ cP cS po rd ri rl (rz) (rc) (q_3) (q_4) (rt) (ru) fl (32) hy0 hy1 hy2 hy3 hbq_3.1 hbq_3.2 (by omega) hbq_4.1 hbq_4.2 hy9 hy10 hy11 hy12 H.size) (cwV 1 hts gX3_readItem_X3_expect rfl rfl rfl ⟨rfl, dh_X3_expect⟩ ⟨Nat.le_of_ble_eq_true rfl, Nat.le_of_ble_eq_true rfl⟩) hK hN (hZ.kept hS) hP hD hS hA [1, 2] [0] rfl rfl (by decide) (by decide) (by decide) (va_recv (q := (RX3, TX3, 8)) hK hP (ci := 3) (q0 := 1) rfl rfl) rfl hl.1 rfl (Nat.le_of_ble_eq_true rfl) dX3_readItem_31 ⟨Nat.le_of_ble_eq_true rfl, Nat.le_of_ble_eq_true rfl⟩ (fun u_35 H locs hr_34 hP hD hS => ?_)
        obtain ⟨q_36, q_37⟩ := u_35
        try dsimp only at hr_34
        obtain ⟨hbq_36, hbq_37, hsr_34_0, hsr_34_1, hr_34⟩ := hr_34
        have h9R := zRe (ws' := [(ri, .inl (cI, 132, .inl (upd fi slot.toNatClampNeg 1))), (rd, .inr (3, [.ref ri, .ref rl, .int rz, .int rc, .int q_36, .int q_37, .int rt, .int ru])), (rl, .inl (cI, 160, .inl fl))]) hP hD rfl
        clear hP hD
        obtain ⟨hP, hD⟩ := h9R
        refine lv_aload_n hx hb dX3_readItem_34 rfl (lv_at hl 2 rfl) ?_
        refine va_get (D := D) (ci := 3) (v := .int q_37) (C := RX3) (T := TX3) (N := 8) hx hb hts hi_X3_readItem_3 hown hK hP 1 rfl rfl 5 (by decide) (hts (.fieldLink RX3 28 "TheLiningsInIt$Reader" "fault" "I") (List.mem_of_getElem? (i := 2) rfl)) (fun _ h9 => h9) rfl dX3_readItem_35 ?_
        refine lv_iconst (v := (-1)) hx hb dX3_readItem_38 (by decide) ?_
        refine lv_icmp_ne (tgt := 67) hx hb dX3_readItem_39 (by decide) (fun c_38 => ?_) (fun c_38 => ?_)
        · have fc_38 : q_37.toInt ≠ (-1) := zf_ne c_38 rfl (by decide)
          have hn0 : zN1 fl rz.toInt (q_3 : Int32).toInt (zLo 1 0) (zHi 1 0 rt.toInt) = ((q_3 : Int32).toInt, (q_3 : Int32).toInt, 0) := zN1_no (by omega)
          refine lv_aload_n hx hb dX3_readItem_67 rfl (lv_at hl 2 rfl) ?_
          refine va_get (D := D) (ci := 3) (v := .int q_37) (C := RX3) (T := TX3) (N := 8) hx hb hts hi_X3_readItem_3 hown hK hP 1 rfl rfl 5 (by decide) (hts (.fieldLink RX3 28 "TheLiningsInIt$Reader" "fault" "I") (List.mem_of_getElem? (i := 2) rfl)) (fun _ h9 => h9) rfl dX3_readItem_68 ?_
          refine lv_iconst (v := (-1)) hx hb dX3_readItem_71 (by decide) ?_
          refine lv_icmp_eq (tgt := 76) hx hb dX3_readItem_72 (by decide) (fun c_39 => ?_) (fun c_39 => ?_)
          · exfalso; have fc_39 : q_37.toInt = (-1) := zf_eq c_39 rfl (by decide); omega
          · have fc_39 : q_37.toInt ≠ (-1) := zf_ne c_39 rfl (by decide)
            have e0 : slot.toNatClampNeg = slot.toInt.toNat + 0 := (by show (slot : Int32).toInt.toNat = _; omega)
            have hI := zIn_a hn0 (by first | (right; decide) | (left; omega))
            exact W.vret hx hb hr (fun t ht hW => ⟨⟨(q_36, q_37, rt, ru, (upd fi slot.toNatClampNeg 1)), rfl, ⟨(show 0 ≤ q_36.toInt ∧ q_36.toInt ≤ 160 from hbq_36), (show (-1) ≤ q_37.toInt ∧ q_37.toInt ≤ 160 from hbq_37), (show 0 ≤ rt.toInt ∧ rt.toInt ≤ 40 from ⟨hy9, hy10⟩), (show 0 ≤ ru.toInt ∧ ru.toInt ≤ 8 from ⟨hy11, hy12⟩), (show q_36.toInt ≤ rz.toInt from by omega), (show (q_37.toInt = -1 → zIt (upd fi slot.toNatClampNeg 1) slot.toInt.toNat) from by (intro h; exfalso; omega)), (show (∀ j : Nat, j < slot.toInt.toNat → (upd fi slot.toNatClampNeg 1) j = fi j) from by (intro j hj; simp only [upd]; rw [if_neg (by omega)])), (show (q_37.toInt = (zItem fl rz.toInt rp.toInt rt.toInt ru.toInt).1 ∧ (q_37.toInt = -1 → q_36.toInt = (zItem fl rz.toInt rp.toInt rt.toInt ru.toInt).2.1 ∧ rt.toInt = (zItem fl rz.toInt rp.toInt rt.toInt ru.toInt).2.2.1 ∧ ru.toInt = (zItem fl rz.toInt rp.toInt rt.toInt ru.toInt).2.2.2)) from by (have z9 := hsr_1_1; rw [kc1] at z9; have hq : zFst fl rz.toInt rp.toInt zWds 10 = 1 ∧ ¬ ((1 : Int) = 3 ∧ ru.toInt = 8) := (by omega); have hl9 : (q_3 : Int32).toInt = rp.toInt + ((zWds ((1 : Int)).toNat).length : Nat) := (by omega); rw [zItem_w hq.1 (by decide) hq.2 hl9 hI]; dsimp only; exact ⟨by (first | rfl | omega), fun h => ⟨by (first | rfl | omega), by (show _ = (if (1 : Int) = 0 then _ else _); rw [if_neg (by decide)]), by (show _ = (if (1 : Int) = 3 then _ else _); rw [if_neg (by decide)])⟩⟩)), (show (q_37.toInt = -1 → (((upd fi slot.toNatClampNeg 1) slot.toInt.toNat).toInt = 0 → rt.toInt = ((upd fi slot.toNatClampNeg 1) (slot.toInt.toNat + 1)).toInt) ∧ (((upd fi slot.toNatClampNeg 1) slot.toInt.toNat).toInt ≠ 0 → rt.toInt = rt.toInt) ∧ (((upd fi slot.toNatClampNeg 1) slot.toInt.toNat).toInt = 3 → ru.toInt = ru.toInt + 1) ∧ (((upd fi slot.toNatClampNeg 1) slot.toInt.toNat).toInt ≠ 3 → ru.toInt = ru.toInt)) from by (intro h; exfalso; omega)), (show (q_37.toInt = -1 → zSm (zDS (upd fi slot.toNatClampNeg 1) slot.toInt.toNat) (zIm fl rz.toInt rp.toInt rt.toInt)) from by (intro h; exfalso; omega)), trivial⟩, zRet ht hP hD [1, 2, 0] (by decide) rfl⟩, hS.F ht⟩) hS.2.2 dX3_readItem_75
        · have fc_38 : q_37.toInt = (-1) := zf_eq c_38 rfl (by decide)
          refine lv_aload_n hx hb dX3_readItem_42 rfl (lv_at hl 2 rfl) ?_
          refine va_get (D := D) (ci := 3) (v := .ref ri) (C := RX3) (T := TX3) (N := 8) hx hb hts hi_X3_readItem_3 hown hK hP 1 rfl rfl 0 (by decide) (hts (.fieldLink RX3 11 "TheLiningsInIt$Reader" "items" "[I") (List.mem_of_getElem? (i := 1) rfl)) (fun _ h9 => h9) rfl dX3_readItem_43 ?_
          refine lv_iload_n hx hb dX3_readItem_46 rfl (lv_at hl 3 rfl) ?_
          refine lv_iconst (v := 1) hx hb dX3_readItem_47 (by decide) ?_
          refine lv_iadd hx hb dX3_readItem_48 ?_
          refine lv_topi (fun x_40 ex_40 => ?_)
          have qx_40 : x_40.toInt = slot.toInt + 1 := by rw [ex_40]; exact zf_add rfl (by decide) (by omega) (by omega)
          refine lv_iload_n hx hb dX3_readItem_49 rfl (lv_at hl 0 rfl) ?_
          refine lv_iadd hx hb dX3_readItem_50 ?_
          refine lv_topi (fun y_41 ey_41 => ?_)
          obtain rfl : x_40 = y_41 := (ey_41.trans (Int32.add_zero x_40)).symm
          refine lv_aload_n hx hb dX3_readItem_51 rfl (lv_at hl 2 rfl) ?_
          refine lv_iload_n hx hb dX3_readItem_52 rfl (lv_at hl 1 rfl) ?_
          refine lv_iload_n hx hb dX3_readItem_53 rfl (lv_at hl 0 rfl) ?_
          refine zc_S (As := [.int 1, .int 0]) (rest := [.ref rd, .int x_40, .ref ri]) ⟨hx, hb, hml, hown, hts⟩ (c_R_leastOf_1_0 l D cI cJ cZ cP cS po  ) (va_cwS 2 hts gX3_readItem_X3_leastOf rfl rfl rfl dh_X3_leastOf ⟨Nat.le_of_ble_eq_true rfl, Nat.le_of_ble_eq_true rfl⟩) hK hN (hZ.kept hS) rfl hl.1 rfl (Nat.le_of_ble_eq_true rfl) dX3_readItem_54 ⟨Nat.le_of_ble_eq_true rfl, Nat.le_of_ble_eq_true rfl⟩ (fun r_42 hr_42 => ?_)
          obtain rfl := hr_42
          refine lv_aload_n hx hb dX3_readItem_57 rfl (lv_at hl 2 rfl) ?_
          refine lv_iload_n hx hb dX3_readItem_58 rfl (lv_at hl 1 rfl) ?_
          refine lv_iload_n hx hb dX3_readItem_59 rfl (lv_at hl 0 rfl) ?_
          refine zc_V (As := [.int 1, .int 0]) (rest := [.int 0, .ref rd, .int x_40, .ref ri]) ⟨hx, hb, hml, hown, hts⟩ (c_R_mostOf_1_0 l D cI cJ cZ cP cS po rd ri rl (rz) (rc) (q_36) (q_37) (rt) (ru) hy0 hy1 hy2 hy3 hbq_36.1 hbq_36.2 (by omega) hbq_37.1 hbq_37.2 hy9 hy10 hy11 hy12) (cwV 2 hts gX3_readItem_X3_mostOf rfl rfl rfl ⟨rfl, dh_X3_mostOf⟩ ⟨Nat.le_of_ble_eq_true rfl, Nat.le_of_ble_eq_true rfl⟩) hK hN (hZ.kept hS) hP (hP.sub [1] rfl) (va_recv (q := (RX3, TX3, 8)) hK hP (ci := 3) (q0 := 1) rfl rfl) rfl hl.1 rfl (Nat.le_of_ble_eq_true rfl) dX3_readItem_60 ⟨Nat.le_of_ble_eq_true rfl, Nat.le_of_ble_eq_true rfl⟩ (fun r_43 hr_43 => ?_)
          obtain ⟨g_44, g_45, hsr_43_0⟩ := hr_43
          have kc0 : (0 : Int32).toInt = 0 := by decide
          skip
          refine zw_V (As := [.int 0, .int r_43]) (rest := [.int x_40, .ref ri]) (wr := [(ri, .inl (cI, 132, .inl (upd fi slot.toNatClampNeg 1)))]) ⟨hx, hb, hml, hown, hts⟩ (c_F_R_readNumber l D cI cJ cZ cP cS po rd ri rl (rz) (rc) (q_36) (q_37) (rt) (ru) fl (0) (r_43) hy0 hy1 hy2 hy3 hbq_36.1 hbq_36.2 (by omega) hbq_37.1 hbq_37.2 hy9 hy10 hy11 hy12 H.size) (cwV 2 hts gX3_readItem_X3_readNumber rfl rfl rfl ⟨rfl, dh_X3_readNumber⟩ ⟨Nat.le_of_ble_eq_true rfl, Nat.le_of_ble_eq_true rfl⟩) hK hN (hZ.kept hS) hP hD hS hA [1, 2] [0] rfl rfl (by decide) (by decide) (by decide) (va_recv (q := (RX3, TX3, 8)) hK hP (ci := 3) (q0 := 1) rfl rfl) rfl hl.1 rfl (Nat.le_of_ble_eq_true rfl) dX3_readItem_63 ⟨Nat.le_of_ble_eq_true rfl, Nat.le_of_ble_eq_true rfl⟩ (fun r_46 u_47 H locs hr_46 hP hD hS => ?_)
          obtain ⟨q_48, q_49⟩ := u_47
          try dsimp only at hr_46
          obtain ⟨hbq_48, hbq_49, hsr_46_0, hsr_46_1, hsr_46_2, hsr_46_3, hr_46⟩ := hr_46
          have h9R := zRe (ws' := [(ri, .inl (cI, 132, .inl (upd fi slot.toNatClampNeg 1))), (rd, .inr (3, [.ref ri, .ref rl, .int rz, .int rc, .int q_48, .int q_49, .int rt, .int ru])), (rl, .inl (cI, 160, .inl fl))]) hP hD rfl
          clear hP hD
          obtain ⟨hP, hD⟩ := h9R
          obtain ⟨g_50, g_51⟩ := hr_46
          refine va_iast hx hb hK hP hD hS 0 0 rfl rfl (zf_in (by omega) (by omega)) dX3_readItem_66 (fun H locs hP hD hS => ?_)
          have h9R := zRe (ws' := [(ri, .inl (cI, 132, .inl (upd (upd fi slot.toNatClampNeg 1) x_40.toNatClampNeg r_46))), (rd, .inr (3, [.ref ri, .ref rl, .int rz, .int rc, .int q_48, .int q_49, .int rt, .int ru])), (rl, .inl (cI, 160, .inl fl))]) hP hD rfl
          clear hP hD
          obtain ⟨hP, hD⟩ := h9R
          have hn0 : zN1 fl rz.toInt (q_3 : Int32).toInt (zLo 1 0) (zHi 1 0 rt.toInt) = ((q_49 : Int32).toInt, (q_48 : Int32).toInt, r_46.toInt) := zN1_yes (p1 := (q_36 : Int32).toInt) (lo2 := ((0 : Int32)).toInt) (hi2 := ((r_43 : Int32)).toInt) (by omega) (by omega) hsr_46_1 hsr_46_2 (by first | decide | (show (0 : Int) = _; omega)) (by first | decide | (show rt.toInt - 1 = _; omega) | (show rt.toInt = _; omega)) (by omega)
          refine lv_aload_n hx hb dX3_readItem_67 rfl (lv_at hl 2 rfl) ?_
          refine va_get (D := D) (ci := 3) (v := .int q_49) (C := RX3) (T := TX3) (N := 8) hx hb hts hi_X3_readItem_3 hown hK hP 1 rfl rfl 5 (by decide) (hts (.fieldLink RX3 28 "TheLiningsInIt$Reader" "fault" "I") (List.mem_of_getElem? (i := 2) rfl)) (fun _ h9 => h9) rfl dX3_readItem_68 ?_
          refine lv_iconst (v := (-1)) hx hb dX3_readItem_71 (by decide) ?_
          refine lv_icmp_eq (tgt := 76) hx hb dX3_readItem_72 (by decide) (fun c_52 => ?_) (fun c_52 => ?_)
          · have fc_52 : q_49.toInt = (-1) := zf_eq c_52 rfl (by decide)
            refine lv_iinc (v := 1) (lv' := [(3, .int 1), (2, .int 1), (0, .ref rd), (1, .int slot)]) hx hb dX3_readItem_76 hl (k := 0) rfl (by decide) (by decide) rfl (fun ls hl => ?_)
            refine lv_goto (tgt := 20) hx hb dX3_readItem_79 (by decide) ?_
            refine lv_iload_n hx hb dX3_readItem_20 rfl (lv_at hl 0 rfl) ?_
            refine lv_iload_n hx hb dX3_readItem_21 rfl (lv_at hl 1 rfl) ?_
            refine zc_S (As := [.int 1]) (rest := [.int 1]) ⟨hx, hb, hml, hown, hts⟩ (c_R_numbersOf_1 l D cI cJ cZ cP cS po  ) (va_cwS 1 hts gX3_readItem_X3_numbersOf rfl rfl rfl dh_X3_numbersOf ⟨Nat.le_of_ble_eq_true rfl, Nat.le_of_ble_eq_true rfl⟩) hK hN (hZ.kept hS) rfl hl.1 rfl (Nat.le_of_ble_eq_true rfl) dX3_readItem_22 ⟨Nat.le_of_ble_eq_true rfl, Nat.le_of_ble_eq_true rfl⟩ (fun r_53 hr_53 => ?_)
            obtain rfl := hr_53
            refine lv_icmp_ge (tgt := 82) hx hb dX3_readItem_25 (by decide) (fun c_54 => ?_) (fun c_54 => ?_)
            · refine lv_iload_n hx hb dX3_readItem_82 rfl (lv_at hl 1 rfl) ?_
              refine lv_if_ne (tgt := 101) hx hb dX3_readItem_83 (by decide) (fun c_55 => ?_) (fun c_55 => ?_)
              · refine lv_iload_n hx hb dX3_readItem_101 rfl (lv_at hl 1 rfl) ?_
                refine lv_iconst (v := 3) hx hb dX3_readItem_102 (by decide) ?_
                refine lv_icmp_ne (tgt := 116) hx hb dX3_readItem_103 (by decide) (fun c_56 => ?_) (fun c_56 => ?_)
                · have e0 : slot.toNatClampNeg = slot.toInt.toNat + 0 := (by show (slot : Int32).toInt.toNat = _; omega)
                  have e1 : x_40.toNatClampNeg = slot.toInt.toNat + 1 := (by show (x_40 : Int32).toInt.toNat = _; omega)
                  have hI := zIn_a hn0 (by first | (right; decide) | (left; omega))
                  exact W.vret hx hb hr (fun t ht hW => ⟨⟨(q_48, q_49, rt, ru, (upd (upd fi slot.toNatClampNeg 1) x_40.toNatClampNeg r_46)), rfl, ⟨(show 0 ≤ q_48.toInt ∧ q_48.toInt ≤ 160 from hbq_48), (show (-1) ≤ q_49.toInt ∧ q_49.toInt ≤ 160 from hbq_49), (show 0 ≤ rt.toInt ∧ rt.toInt ≤ 40 from ⟨hy9, hy10⟩), (show 0 ≤ ru.toInt ∧ ru.toInt ≤ 8 from ⟨hy11, hy12⟩), (show q_48.toInt ≤ rz.toInt from by omega), (show (q_49.toInt = -1 → zIt (upd (upd fi slot.toNatClampNeg 1) x_40.toNatClampNeg r_46) slot.toInt.toNat) from by (intro h; have k3 : (1 : Int32).toInt = 1 := (by decide); exact zIt_mk (by simp only [upd]; rw [if_neg (by omega), if_pos (by omega)]) (by simp only [upd]; rw [if_pos (by omega)]) (rfl) (rfl) (by unfold zItv; refine ⟨?_, ?_, ?_, ?_, ?_, ?_, ?_, ?_, ?_, ?_, ?_⟩ <;> (intros; omega)))), (show (∀ j : Nat, j < slot.toInt.toNat → (upd (upd fi slot.toNatClampNeg 1) x_40.toNatClampNeg r_46) j = fi j) from by (intro j hj; simp only [upd]; rw [if_neg (by omega), if_neg (by omega)])), (show (q_49.toInt = (zItem fl rz.toInt rp.toInt rt.toInt ru.toInt).1 ∧ (q_49.toInt = -1 → q_48.toInt = (zItem fl rz.toInt rp.toInt rt.toInt ru.toInt).2.1 ∧ rt.toInt = (zItem fl rz.toInt rp.toInt rt.toInt ru.toInt).2.2.1 ∧ ru.toInt = (zItem fl rz.toInt rp.toInt rt.toInt ru.toInt).2.2.2)) from by (have z9 := hsr_1_1; rw [kc1] at z9; have hq : zFst fl rz.toInt rp.toInt zWds 10 = 1 ∧ ¬ ((1 : Int) = 3 ∧ ru.toInt = 8) := (by omega); have hl9 : (q_3 : Int32).toInt = rp.toInt + ((zWds ((1 : Int)).toNat).length : Nat) := (by omega); rw [zItem_w hq.1 (by decide) hq.2 hl9 hI]; dsimp only; exact ⟨by (first | rfl | omega), fun h => ⟨by (first | rfl | omega), by (show _ = (if (1 : Int) = 0 then _ else _); rw [if_neg (by decide)]), by (show _ = (if (1 : Int) = 3 then _ else _); rw [if_neg (by decide)])⟩⟩)), (show (q_49.toInt = -1 → (((upd (upd fi slot.toNatClampNeg 1) x_40.toNatClampNeg r_46) slot.toInt.toNat).toInt = 0 → rt.toInt = ((upd (upd fi slot.toNatClampNeg 1) x_40.toNatClampNeg r_46) (slot.toInt.toNat + 1)).toInt) ∧ (((upd (upd fi slot.toNatClampNeg 1) x_40.toNatClampNeg r_46) slot.toInt.toNat).toInt ≠ 0 → rt.toInt = rt.toInt) ∧ (((upd (upd fi slot.toNatClampNeg 1) x_40.toNatClampNeg r_46) slot.toInt.toNat).toInt = 3 → ru.toInt = ru.toInt + 1) ∧ (((upd (upd fi slot.toNatClampNeg 1) x_40.toNatClampNeg r_46) slot.toInt.toNat).toInt ≠ 3 → ru.toInt = ru.toInt)) from by (intro h; have g0 : (upd (upd fi slot.toNatClampNeg 1) x_40.toNatClampNeg r_46) slot.toInt.toNat = (1 : Int32) := (by simp only [upd]; rw [if_neg (by omega), if_pos (by omega)]); have g1 : (upd (upd fi slot.toNatClampNeg 1) x_40.toNatClampNeg r_46) (slot.toInt.toNat + 1) = (r_46 : Int32) := (by simp only [upd]; rw [if_pos (by omega)]); rw [g0, g1]; refine ⟨?_, ?_, ?_, ?_⟩ <;> (intro h9; first | rfl | omega | (exfalso; omega)))), (show (q_49.toInt = -1 → zSm (zDS (upd (upd fi slot.toNatClampNeg 1) x_40.toNatClampNeg r_46) slot.toInt.toNat) (zIm fl rz.toInt rp.toInt rt.toInt)) from by (intro h; have g0 : (upd (upd fi slot.toNatClampNeg 1) x_40.toNatClampNeg r_46) (slot.toInt.toNat + 0) = (1 : Int32) := (by simp only [upd]; rw [if_neg (by omega), if_pos (by omega)]); have g1 : (upd (upd fi slot.toNatClampNeg 1) x_40.toNatClampNeg r_46) (slot.toInt.toNat + 1) = (r_46 : Int32) := (by simp only [upd]; rw [if_pos (by omega)]); have z9 := hsr_1_1; rw [kc1] at z9; have hW : zIW fl rz.toInt rp.toInt = 1 := (by unfold zIW; omega); have hP9 : zIP fl rz.toInt rp.toInt = (q_3 : Int32).toInt := (by unfold zIP; rw [hW]; have hl9 : (q_3 : Int32).toInt = rp.toInt + ((zWds ((1 : Int)).toNat).length : Nat) := (by omega); exact hl9.symm); exact ⟨(show ((upd (upd fi slot.toNatClampNeg 1) x_40.toNatClampNeg r_46) (slot.toInt.toNat + 0)).toInt = zIW fl rz.toInt rp.toInt from by (rw [g0, hW]; omega)), (show ((upd (upd fi slot.toNatClampNeg 1) x_40.toNatClampNeg r_46) (slot.toInt.toNat + 1)).toInt = (zIn fl rz.toInt (zIP fl rz.toInt rp.toInt) rt.toInt (zIW fl rz.toInt rp.toInt)).2.2 from by (rw [g1, hP9, hW, hI])), fun hz => absurd (show ((upd (upd fi slot.toNatClampNeg 1) x_40.toNatClampNeg r_46) (slot.toInt.toNat + 0)).toInt = 2 ∨ ((upd (upd fi slot.toNatClampNeg 1) x_40.toNatClampNeg r_46) (slot.toInt.toNat + 0)).toInt = 3 ∨ ((upd (upd fi slot.toNatClampNeg 1) x_40.toNatClampNeg r_46) (slot.toInt.toNat + 0)).toInt = 8 from hz) (by rw [g0]; omega), fun hz => absurd (show ((upd (upd fi slot.toNatClampNeg 1) x_40.toNatClampNeg r_46) (slot.toInt.toNat + 0)).toInt = 3 from hz) (by rw [g0]; omega)⟩)), trivial⟩, zRet ht hP hD [1, 2, 0] (by decide) rfl⟩, hS.F ht⟩) hS.2.2 dX3_readItem_116
                · exact absurd c_56 (by decide)
              · exact absurd c_55 (by decide)
            · exact absurd c_54 (by decide)
          · have fc_52 : q_49.toInt ≠ (-1) := zf_ne c_52 rfl (by decide)
            have e0 : slot.toNatClampNeg = slot.toInt.toNat + 0 := (by show (slot : Int32).toInt.toNat = _; omega)
            have e1 : x_40.toNatClampNeg = slot.toInt.toNat + 1 := (by show (x_40 : Int32).toInt.toNat = _; omega)
            have hI := zIn_a hn0 (by first | (right; decide) | (left; omega))
            exact W.vret hx hb hr (fun t ht hW => ⟨⟨(q_48, q_49, rt, ru, (upd (upd fi slot.toNatClampNeg 1) x_40.toNatClampNeg r_46)), rfl, ⟨(show 0 ≤ q_48.toInt ∧ q_48.toInt ≤ 160 from hbq_48), (show (-1) ≤ q_49.toInt ∧ q_49.toInt ≤ 160 from hbq_49), (show 0 ≤ rt.toInt ∧ rt.toInt ≤ 40 from ⟨hy9, hy10⟩), (show 0 ≤ ru.toInt ∧ ru.toInt ≤ 8 from ⟨hy11, hy12⟩), (show q_48.toInt ≤ rz.toInt from by omega), (show (q_49.toInt = -1 → zIt (upd (upd fi slot.toNatClampNeg 1) x_40.toNatClampNeg r_46) slot.toInt.toNat) from by (intro h; exfalso; omega)), (show (∀ j : Nat, j < slot.toInt.toNat → (upd (upd fi slot.toNatClampNeg 1) x_40.toNatClampNeg r_46) j = fi j) from by (intro j hj; simp only [upd]; rw [if_neg (by omega), if_neg (by omega)])), (show (q_49.toInt = (zItem fl rz.toInt rp.toInt rt.toInt ru.toInt).1 ∧ (q_49.toInt = -1 → q_48.toInt = (zItem fl rz.toInt rp.toInt rt.toInt ru.toInt).2.1 ∧ rt.toInt = (zItem fl rz.toInt rp.toInt rt.toInt ru.toInt).2.2.1 ∧ ru.toInt = (zItem fl rz.toInt rp.toInt rt.toInt ru.toInt).2.2.2)) from by (have z9 := hsr_1_1; rw [kc1] at z9; have hq : zFst fl rz.toInt rp.toInt zWds 10 = 1 ∧ ¬ ((1 : Int) = 3 ∧ ru.toInt = 8) := (by omega); have hl9 : (q_3 : Int32).toInt = rp.toInt + ((zWds ((1 : Int)).toNat).length : Nat) := (by omega); rw [zItem_w hq.1 (by decide) hq.2 hl9 hI]; dsimp only; exact ⟨by (first | rfl | omega), fun h => ⟨by (first | rfl | omega), by (show _ = (if (1 : Int) = 0 then _ else _); rw [if_neg (by decide)]), by (show _ = (if (1 : Int) = 3 then _ else _); rw [if_neg (by decide)])⟩⟩)), (show (q_49.toInt = -1 → (((upd (upd fi slot.toNatClampNeg 1) x_40.toNatClampNeg r_46) slot.toInt.toNat).toInt = 0 → rt.toInt = ((upd (upd fi slot.toNatClampNeg 1) x_40.toNatClampNeg r_46) (slot.toInt.toNat + 1)).toInt) ∧ (((upd (upd fi slot.toNatClampNeg 1) x_40.toNatClampNeg r_46) slot.toInt.toNat).toInt ≠ 0 → rt.toInt = rt.toInt) ∧ (((upd (upd fi slot.toNatClampNeg 1) x_40.toNatClampNeg r_46) slot.toInt.toNat).toInt = 3 → ru.toInt = ru.toInt + 1) ∧ (((upd (upd fi slot.toNatClampNeg 1) x_40.toNatClampNeg r_46) slot.toInt.toNat).toInt ≠ 3 → ru.toInt = ru.toInt)) from by (intro h; exfalso; omega)), (show (q_49.toInt = -1 → zSm (zDS (upd (upd fi slot.toNatClampNeg 1) x_40.toNatClampNeg r_46) slot.toInt.toNat) (zIm fl rz.toInt rp.toInt rt.toInt)) from by (intro h; exfalso; omega)), trivial⟩, zRet ht hP hD [1, 2, 0] (by decide) rfl⟩, hS.F ht⟩) hS.2.2 dX3_readItem_75
    · have kc2 : (2 : Int32).toInt = 2 := by decide
      refine lv_aload_n hx hb dX3_readItem_11 rfl (lv_at hl 1 rfl) ?_
      refine va_get (D := D) (ci := 3) (v := .ref ri) (C := RX3) (T := TX3) (N := 8) hx hb hts hi_X3_readItem_3 hown hK hP 1 rfl rfl 0 (by decide) (hts (.fieldLink RX3 11 "TheLiningsInIt$Reader" "items" "[I") (List.mem_of_getElem? (i := 1) rfl)) (fun _ h9 => h9) rfl dX3_readItem_12 ?_
      refine lv_iload_n hx hb dX3_readItem_15 rfl (lv_at hl 2 rfl) ?_
      refine lv_iload_n hx hb dX3_readItem_16 rfl (lv_at hl 0 rfl) ?_
      refine va_iast hx hb hK hP hD hS 0 0 rfl rfl (zf_in (by omega) (by omega)) dX3_readItem_17 (fun H locs hP hD hS => ?_)
      have h9R := zRe (ws' := [(ri, .inl (cI, 132, .inl (upd fi slot.toNatClampNeg 2))), (rd, .inr (3, [.ref ri, .ref rl, .int rz, .int rc, .int q_3, .int q_4, .int rt, .int ru])), (rl, .inl (cI, 160, .inl fl))]) hP hD rfl
      clear hP hD
      obtain ⟨hP, hD⟩ := h9R
      refine lv_iconst (v := 0) hx hb dX3_readItem_18 (by decide) ?_
      refine lv_istore_n (lv' := [(3, .int 0), (2, .int 2), (0, .ref rd), (1, .int slot)]) hx hb dX3_readItem_19 rfl hl (by decide) rfl (fun ls hl => ?_)
      refine lv_iload_n hx hb dX3_readItem_20 rfl (lv_at hl 0 rfl) ?_
      refine lv_iload_n hx hb dX3_readItem_21 rfl (lv_at hl 1 rfl) ?_
      refine zc_S (As := [.int 2]) (rest := [.int 0]) ⟨hx, hb, hml, hown, hts⟩ (c_R_numbersOf_2 l D cI cJ cZ cP cS po  ) (va_cwS 1 hts gX3_readItem_X3_numbersOf rfl rfl rfl dh_X3_numbersOf ⟨Nat.le_of_ble_eq_true rfl, Nat.le_of_ble_eq_true rfl⟩) hK hN (hZ.kept hS) rfl hl.1 rfl (Nat.le_of_ble_eq_true rfl) dX3_readItem_22 ⟨Nat.le_of_ble_eq_true rfl, Nat.le_of_ble_eq_true rfl⟩ (fun r_57 hr_57 => ?_)
      obtain rfl := hr_57
      refine lv_icmp_ge (tgt := 82) hx hb dX3_readItem_25 (by decide) (fun c_58 => ?_) (fun c_58 => ?_)
      · exact absurd c_58 (by decide)
      · refine lv_aload_n hx hb dX3_readItem_28 rfl (lv_at hl 2 rfl) ?_
        refine lv_bipush (v := 32) hx hb dX3_readItem_29 (by decide) ?_
        have kc32 : (32 : Int32).toInt = 32 := by decide
        skip
        refine zw_Vv (As := [.int 32]) (rest := []) (wr := [(ri, .inl (cI, 132, .inl (upd fi slot.toNatClampNeg 2)))]) ⟨hx, hb, hml, hown, hts⟩ (c_F_R_expect l D cI cJ cZ cP cS po rd ri rl (rz) (rc) (q_3) (q_4) (rt) (ru) fl (32) hy0 hy1 hy2 hy3 hbq_3.1 hbq_3.2 (by omega) hbq_4.1 hbq_4.2 hy9 hy10 hy11 hy12 H.size) (cwV 1 hts gX3_readItem_X3_expect rfl rfl rfl ⟨rfl, dh_X3_expect⟩ ⟨Nat.le_of_ble_eq_true rfl, Nat.le_of_ble_eq_true rfl⟩) hK hN (hZ.kept hS) hP hD hS hA [1, 2] [0] rfl rfl (by decide) (by decide) (by decide) (va_recv (q := (RX3, TX3, 8)) hK hP (ci := 3) (q0 := 1) rfl rfl) rfl hl.1 rfl (Nat.le_of_ble_eq_true rfl) dX3_readItem_31 ⟨Nat.le_of_ble_eq_true rfl, Nat.le_of_ble_eq_true rfl⟩ (fun u_60 H locs hr_59 hP hD hS => ?_)
        obtain ⟨q_61, q_62⟩ := u_60
        try dsimp only at hr_59
        obtain ⟨hbq_61, hbq_62, hsr_59_0, hsr_59_1, hr_59⟩ := hr_59
        have h9R := zRe (ws' := [(ri, .inl (cI, 132, .inl (upd fi slot.toNatClampNeg 2))), (rd, .inr (3, [.ref ri, .ref rl, .int rz, .int rc, .int q_61, .int q_62, .int rt, .int ru])), (rl, .inl (cI, 160, .inl fl))]) hP hD rfl
        clear hP hD
        obtain ⟨hP, hD⟩ := h9R
        refine lv_aload_n hx hb dX3_readItem_34 rfl (lv_at hl 2 rfl) ?_
        refine va_get (D := D) (ci := 3) (v := .int q_62) (C := RX3) (T := TX3) (N := 8) hx hb hts hi_X3_readItem_3 hown hK hP 1 rfl rfl 5 (by decide) (hts (.fieldLink RX3 28 "TheLiningsInIt$Reader" "fault" "I") (List.mem_of_getElem? (i := 2) rfl)) (fun _ h9 => h9) rfl dX3_readItem_35 ?_
        refine lv_iconst (v := (-1)) hx hb dX3_readItem_38 (by decide) ?_
        refine lv_icmp_ne (tgt := 67) hx hb dX3_readItem_39 (by decide) (fun c_63 => ?_) (fun c_63 => ?_)
        · have fc_63 : q_62.toInt ≠ (-1) := zf_ne c_63 rfl (by decide)
          have hn0 : zN1 fl rz.toInt (q_3 : Int32).toInt (zLo 2 0) (zHi 2 0 rt.toInt) = ((q_3 : Int32).toInt, (q_3 : Int32).toInt, 0) := zN1_no (by omega)
          refine lv_aload_n hx hb dX3_readItem_67 rfl (lv_at hl 2 rfl) ?_
          refine va_get (D := D) (ci := 3) (v := .int q_62) (C := RX3) (T := TX3) (N := 8) hx hb hts hi_X3_readItem_3 hown hK hP 1 rfl rfl 5 (by decide) (hts (.fieldLink RX3 28 "TheLiningsInIt$Reader" "fault" "I") (List.mem_of_getElem? (i := 2) rfl)) (fun _ h9 => h9) rfl dX3_readItem_68 ?_
          refine lv_iconst (v := (-1)) hx hb dX3_readItem_71 (by decide) ?_
          refine lv_icmp_eq (tgt := 76) hx hb dX3_readItem_72 (by decide) (fun c_64 => ?_) (fun c_64 => ?_)
          · exfalso; have fc_64 : q_62.toInt = (-1) := zf_eq c_64 rfl (by decide); omega
          · have fc_64 : q_62.toInt ≠ (-1) := zf_ne c_64 rfl (by decide)
            have e0 : slot.toNatClampNeg = slot.toInt.toNat + 0 := (by show (slot : Int32).toInt.toNat = _; omega)
            have hI := zIn_a hn0 (by first | (right; decide) | (left; omega))
            exact W.vret hx hb hr (fun t ht hW => ⟨⟨(q_61, q_62, rt, ru, (upd fi slot.toNatClampNeg 2)), rfl, ⟨(show 0 ≤ q_61.toInt ∧ q_61.toInt ≤ 160 from hbq_61), (show (-1) ≤ q_62.toInt ∧ q_62.toInt ≤ 160 from hbq_62), (show 0 ≤ rt.toInt ∧ rt.toInt ≤ 40 from ⟨hy9, hy10⟩), (show 0 ≤ ru.toInt ∧ ru.toInt ≤ 8 from ⟨hy11, hy12⟩), (show q_61.toInt ≤ rz.toInt from by omega), (show (q_62.toInt = -1 → zIt (upd fi slot.toNatClampNeg 2) slot.toInt.toNat) from by (intro h; exfalso; omega)), (show (∀ j : Nat, j < slot.toInt.toNat → (upd fi slot.toNatClampNeg 2) j = fi j) from by (intro j hj; simp only [upd]; rw [if_neg (by omega)])), (show (q_62.toInt = (zItem fl rz.toInt rp.toInt rt.toInt ru.toInt).1 ∧ (q_62.toInt = -1 → q_61.toInt = (zItem fl rz.toInt rp.toInt rt.toInt ru.toInt).2.1 ∧ rt.toInt = (zItem fl rz.toInt rp.toInt rt.toInt ru.toInt).2.2.1 ∧ ru.toInt = (zItem fl rz.toInt rp.toInt rt.toInt ru.toInt).2.2.2)) from by (have z9 := hsr_1_1; rw [kc2] at z9; have hq : zFst fl rz.toInt rp.toInt zWds 10 = 2 ∧ ¬ ((2 : Int) = 3 ∧ ru.toInt = 8) := (by omega); have hl9 : (q_3 : Int32).toInt = rp.toInt + ((zWds ((2 : Int)).toNat).length : Nat) := (by omega); rw [zItem_w hq.1 (by decide) hq.2 hl9 hI]; dsimp only; exact ⟨by (first | rfl | omega), fun h => ⟨by (first | rfl | omega), by (show _ = (if (2 : Int) = 0 then _ else _); rw [if_neg (by decide)]), by (show _ = (if (2 : Int) = 3 then _ else _); rw [if_neg (by decide)])⟩⟩)), (show (q_62.toInt = -1 → (((upd fi slot.toNatClampNeg 2) slot.toInt.toNat).toInt = 0 → rt.toInt = ((upd fi slot.toNatClampNeg 2) (slot.toInt.toNat + 1)).toInt) ∧ (((upd fi slot.toNatClampNeg 2) slot.toInt.toNat).toInt ≠ 0 → rt.toInt = rt.toInt) ∧ (((upd fi slot.toNatClampNeg 2) slot.toInt.toNat).toInt = 3 → ru.toInt = ru.toInt + 1) ∧ (((upd fi slot.toNatClampNeg 2) slot.toInt.toNat).toInt ≠ 3 → ru.toInt = ru.toInt)) from by (intro h; exfalso; omega)), (show (q_62.toInt = -1 → zSm (zDS (upd fi slot.toNatClampNeg 2) slot.toInt.toNat) (zIm fl rz.toInt rp.toInt rt.toInt)) from by (intro h; exfalso; omega)), trivial⟩, zRet ht hP hD [1, 2, 0] (by decide) rfl⟩, hS.F ht⟩) hS.2.2 dX3_readItem_75
        · have fc_63 : q_62.toInt = (-1) := zf_eq c_63 rfl (by decide)
          refine lv_aload_n hx hb dX3_readItem_42 rfl (lv_at hl 2 rfl) ?_
          refine va_get (D := D) (ci := 3) (v := .ref ri) (C := RX3) (T := TX3) (N := 8) hx hb hts hi_X3_readItem_3 hown hK hP 1 rfl rfl 0 (by decide) (hts (.fieldLink RX3 11 "TheLiningsInIt$Reader" "items" "[I") (List.mem_of_getElem? (i := 1) rfl)) (fun _ h9 => h9) rfl dX3_readItem_43 ?_
          refine lv_iload_n hx hb dX3_readItem_46 rfl (lv_at hl 3 rfl) ?_
          refine lv_iconst (v := 1) hx hb dX3_readItem_47 (by decide) ?_
          refine lv_iadd hx hb dX3_readItem_48 ?_
          refine lv_topi (fun x_65 ex_65 => ?_)
          have qx_65 : x_65.toInt = slot.toInt + 1 := by rw [ex_65]; exact zf_add rfl (by decide) (by omega) (by omega)
          refine lv_iload_n hx hb dX3_readItem_49 rfl (lv_at hl 0 rfl) ?_
          refine lv_iadd hx hb dX3_readItem_50 ?_
          refine lv_topi (fun y_66 ey_66 => ?_)
          obtain rfl : x_65 = y_66 := (ey_66.trans (Int32.add_zero x_65)).symm
          refine lv_aload_n hx hb dX3_readItem_51 rfl (lv_at hl 2 rfl) ?_
          refine lv_iload_n hx hb dX3_readItem_52 rfl (lv_at hl 1 rfl) ?_
          refine lv_iload_n hx hb dX3_readItem_53 rfl (lv_at hl 0 rfl) ?_
          refine zc_S (As := [.int 2, .int 0]) (rest := [.ref rd, .int x_65, .ref ri]) ⟨hx, hb, hml, hown, hts⟩ (c_R_leastOf_2_0 l D cI cJ cZ cP cS po  ) (va_cwS 2 hts gX3_readItem_X3_leastOf rfl rfl rfl dh_X3_leastOf ⟨Nat.le_of_ble_eq_true rfl, Nat.le_of_ble_eq_true rfl⟩) hK hN (hZ.kept hS) rfl hl.1 rfl (Nat.le_of_ble_eq_true rfl) dX3_readItem_54 ⟨Nat.le_of_ble_eq_true rfl, Nat.le_of_ble_eq_true rfl⟩ (fun r_67 hr_67 => ?_)
          obtain rfl := hr_67
          refine lv_aload_n hx hb dX3_readItem_57 rfl (lv_at hl 2 rfl) ?_
          refine lv_iload_n hx hb dX3_readItem_58 rfl (lv_at hl 1 rfl) ?_
          refine lv_iload_n hx hb dX3_readItem_59 rfl (lv_at hl 0 rfl) ?_
          refine zc_V (As := [.int 2, .int 0]) (rest := [.int 0, .ref rd, .int x_65, .ref ri]) ⟨hx, hb, hml, hown, hts⟩ (c_R_mostOf_2_0 l D cI cJ cZ cP cS po rd ri rl (rz) (rc) (q_61) (q_62) (rt) (ru) hy0 hy1 hy2 hy3 hbq_61.1 hbq_61.2 (by omega) hbq_62.1 hbq_62.2 hy9 hy10 hy11 hy12) (cwV 2 hts gX3_readItem_X3_mostOf rfl rfl rfl ⟨rfl, dh_X3_mostOf⟩ ⟨Nat.le_of_ble_eq_true rfl, Nat.le_of_ble_eq_true rfl⟩) hK hN (hZ.kept hS) hP (hP.sub [1] rfl) (va_recv (q := (RX3, TX3, 8)) hK hP (ci := 3) (q0 := 1) rfl rfl) rfl hl.1 rfl (Nat.le_of_ble_eq_true rfl) dX3_readItem_60 ⟨Nat.le_of_ble_eq_true rfl, Nat.le_of_ble_eq_true rfl⟩ (fun r_68 hr_68 => ?_)
          obtain ⟨g_69, g_70, hsr_68_0⟩ := hr_68
          have kc0 : (0 : Int32).toInt = 0 := by decide
          skip
          refine zw_V (As := [.int 0, .int r_68]) (rest := [.int x_65, .ref ri]) (wr := [(ri, .inl (cI, 132, .inl (upd fi slot.toNatClampNeg 2)))]) ⟨hx, hb, hml, hown, hts⟩ (c_F_R_readNumber l D cI cJ cZ cP cS po rd ri rl (rz) (rc) (q_61) (q_62) (rt) (ru) fl (0) (r_68) hy0 hy1 hy2 hy3 hbq_61.1 hbq_61.2 (by omega) hbq_62.1 hbq_62.2 hy9 hy10 hy11 hy12 H.size) (cwV 2 hts gX3_readItem_X3_readNumber rfl rfl rfl ⟨rfl, dh_X3_readNumber⟩ ⟨Nat.le_of_ble_eq_true rfl, Nat.le_of_ble_eq_true rfl⟩) hK hN (hZ.kept hS) hP hD hS hA [1, 2] [0] rfl rfl (by decide) (by decide) (by decide) (va_recv (q := (RX3, TX3, 8)) hK hP (ci := 3) (q0 := 1) rfl rfl) rfl hl.1 rfl (Nat.le_of_ble_eq_true rfl) dX3_readItem_63 ⟨Nat.le_of_ble_eq_true rfl, Nat.le_of_ble_eq_true rfl⟩ (fun r_71 u_72 H locs hr_71 hP hD hS => ?_)
          obtain ⟨q_73, q_74⟩ := u_72
          try dsimp only at hr_71
          obtain ⟨hbq_73, hbq_74, hsr_71_0, hsr_71_1, hsr_71_2, hsr_71_3, hr_71⟩ := hr_71
          have h9R := zRe (ws' := [(ri, .inl (cI, 132, .inl (upd fi slot.toNatClampNeg 2))), (rd, .inr (3, [.ref ri, .ref rl, .int rz, .int rc, .int q_73, .int q_74, .int rt, .int ru])), (rl, .inl (cI, 160, .inl fl))]) hP hD rfl
          clear hP hD
          obtain ⟨hP, hD⟩ := h9R
          obtain ⟨g_75, g_76⟩ := hr_71
          refine va_iast hx hb hK hP hD hS 0 0 rfl rfl (zf_in (by omega) (by omega)) dX3_readItem_66 (fun H locs hP hD hS => ?_)
          have h9R := zRe (ws' := [(ri, .inl (cI, 132, .inl (upd (upd fi slot.toNatClampNeg 2) x_65.toNatClampNeg r_71))), (rd, .inr (3, [.ref ri, .ref rl, .int rz, .int rc, .int q_73, .int q_74, .int rt, .int ru])), (rl, .inl (cI, 160, .inl fl))]) hP hD rfl
          clear hP hD
          obtain ⟨hP, hD⟩ := h9R
          have hn0 : zN1 fl rz.toInt (q_3 : Int32).toInt (zLo 2 0) (zHi 2 0 rt.toInt) = ((q_74 : Int32).toInt, (q_73 : Int32).toInt, r_71.toInt) := zN1_yes (p1 := (q_61 : Int32).toInt) (lo2 := ((0 : Int32)).toInt) (hi2 := ((r_68 : Int32)).toInt) (by omega) (by omega) hsr_71_1 hsr_71_2 (by first | decide | (show (0 : Int) = _; omega)) (by first | decide | (show rt.toInt - 1 = _; omega) | (show rt.toInt = _; omega)) (by omega)
          refine lv_aload_n hx hb dX3_readItem_67 rfl (lv_at hl 2 rfl) ?_
          refine va_get (D := D) (ci := 3) (v := .int q_74) (C := RX3) (T := TX3) (N := 8) hx hb hts hi_X3_readItem_3 hown hK hP 1 rfl rfl 5 (by decide) (hts (.fieldLink RX3 28 "TheLiningsInIt$Reader" "fault" "I") (List.mem_of_getElem? (i := 2) rfl)) (fun _ h9 => h9) rfl dX3_readItem_68 ?_
          refine lv_iconst (v := (-1)) hx hb dX3_readItem_71 (by decide) ?_
          refine lv_icmp_eq (tgt := 76) hx hb dX3_readItem_72 (by decide) (fun c_77 => ?_) (fun c_77 => ?_)
          · have fc_77 : q_74.toInt = (-1) := zf_eq c_77 rfl (by decide)
            refine lv_iinc (v := 1) (lv' := [(3, .int 1), (2, .int 2), (0, .ref rd), (1, .int slot)]) hx hb dX3_readItem_76 hl (k := 0) rfl (by decide) (by decide) rfl (fun ls hl => ?_)
            refine lv_goto (tgt := 20) hx hb dX3_readItem_79 (by decide) ?_
            refine lv_iload_n hx hb dX3_readItem_20 rfl (lv_at hl 0 rfl) ?_
            refine lv_iload_n hx hb dX3_readItem_21 rfl (lv_at hl 1 rfl) ?_
            refine zc_S (As := [.int 2]) (rest := [.int 1]) ⟨hx, hb, hml, hown, hts⟩ (c_R_numbersOf_2 l D cI cJ cZ cP cS po  ) (va_cwS 1 hts gX3_readItem_X3_numbersOf rfl rfl rfl dh_X3_numbersOf ⟨Nat.le_of_ble_eq_true rfl, Nat.le_of_ble_eq_true rfl⟩) hK hN (hZ.kept hS) rfl hl.1 rfl (Nat.le_of_ble_eq_true rfl) dX3_readItem_22 ⟨Nat.le_of_ble_eq_true rfl, Nat.le_of_ble_eq_true rfl⟩ (fun r_78 hr_78 => ?_)
            obtain rfl := hr_78
            refine lv_icmp_ge (tgt := 82) hx hb dX3_readItem_25 (by decide) (fun c_79 => ?_) (fun c_79 => ?_)
            · exact absurd c_79 (by decide)
            · refine lv_aload_n hx hb dX3_readItem_28 rfl (lv_at hl 2 rfl) ?_
              refine lv_bipush (v := 32) hx hb dX3_readItem_29 (by decide) ?_
              skip
              refine zw_Vv (As := [.int 32]) (rest := []) (wr := [(ri, .inl (cI, 132, .inl (upd (upd fi slot.toNatClampNeg 2) x_65.toNatClampNeg r_71)))]) ⟨hx, hb, hml, hown, hts⟩ (c_F_R_expect l D cI cJ cZ cP cS po rd ri rl (rz) (rc) (q_73) (q_74) (rt) (ru) fl (32) hy0 hy1 hy2 hy3 hbq_73.1 hbq_73.2 (by omega) hbq_74.1 hbq_74.2 hy9 hy10 hy11 hy12 H.size) (cwV 1 hts gX3_readItem_X3_expect rfl rfl rfl ⟨rfl, dh_X3_expect⟩ ⟨Nat.le_of_ble_eq_true rfl, Nat.le_of_ble_eq_true rfl⟩) hK hN (hZ.kept hS) hP hD hS hA [1, 2] [0] rfl rfl (by decide) (by decide) (by decide) (va_recv (q := (RX3, TX3, 8)) hK hP (ci := 3) (q0 := 1) rfl rfl) rfl hl.1 rfl (Nat.le_of_ble_eq_true rfl) dX3_readItem_31 ⟨Nat.le_of_ble_eq_true rfl, Nat.le_of_ble_eq_true rfl⟩ (fun u_81 H locs hr_80 hP hD hS => ?_)
              obtain ⟨q_82, q_83⟩ := u_81
              try dsimp only at hr_80
              obtain ⟨hbq_82, hbq_83, hsr_80_0, hsr_80_1, hr_80⟩ := hr_80
              have h9R := zRe (ws' := [(ri, .inl (cI, 132, .inl (upd (upd fi slot.toNatClampNeg 2) x_65.toNatClampNeg r_71))), (rd, .inr (3, [.ref ri, .ref rl, .int rz, .int rc, .int q_82, .int q_83, .int rt, .int ru])), (rl, .inl (cI, 160, .inl fl))]) hP hD rfl
              clear hP hD
              obtain ⟨hP, hD⟩ := h9R
              refine lv_aload_n hx hb dX3_readItem_34 rfl (lv_at hl 2 rfl) ?_
              refine va_get (D := D) (ci := 3) (v := .int q_83) (C := RX3) (T := TX3) (N := 8) hx hb hts hi_X3_readItem_3 hown hK hP 1 rfl rfl 5 (by decide) (hts (.fieldLink RX3 28 "TheLiningsInIt$Reader" "fault" "I") (List.mem_of_getElem? (i := 2) rfl)) (fun _ h9 => h9) rfl dX3_readItem_35 ?_
              refine lv_iconst (v := (-1)) hx hb dX3_readItem_38 (by decide) ?_
              refine lv_icmp_ne (tgt := 67) hx hb dX3_readItem_39 (by decide) (fun c_84 => ?_) (fun c_84 => ?_)
              · have fc_84 : q_83.toInt ≠ (-1) := zf_ne c_84 rfl (by decide)
                have hn1 : zN1 fl rz.toInt (q_73 : Int32).toInt (zLo 2 1) (zHi 2 1 rt.toInt) = ((q_73 : Int32).toInt, (q_73 : Int32).toInt, 0) := zN1_no (by omega)
                refine lv_aload_n hx hb dX3_readItem_67 rfl (lv_at hl 2 rfl) ?_
                refine va_get (D := D) (ci := 3) (v := .int q_83) (C := RX3) (T := TX3) (N := 8) hx hb hts hi_X3_readItem_3 hown hK hP 1 rfl rfl 5 (by decide) (hts (.fieldLink RX3 28 "TheLiningsInIt$Reader" "fault" "I") (List.mem_of_getElem? (i := 2) rfl)) (fun _ h9 => h9) rfl dX3_readItem_68 ?_
                refine lv_iconst (v := (-1)) hx hb dX3_readItem_71 (by decide) ?_
                refine lv_icmp_eq (tgt := 76) hx hb dX3_readItem_72 (by decide) (fun c_85 => ?_) (fun c_85 => ?_)
                · exfalso; have fc_85 : q_83.toInt = (-1) := zf_eq c_85 rfl (by decide); omega
                · have fc_85 : q_83.toInt ≠ (-1) := zf_ne c_85 rfl (by decide)
                  have e0 : slot.toNatClampNeg = slot.toInt.toNat + 0 := (by show (slot : Int32).toInt.toNat = _; omega)
                  have e1 : x_65.toNatClampNeg = slot.toInt.toNat + 1 := (by show (x_65 : Int32).toInt.toNat = _; omega)
                  have hI := zIn_b (by have z := hn0; rw [show (q_74 : Int32).toInt = -1 from by omega] at z; exact z) (by decide) hn1 (by first | (right; decide) | (left; omega))
                  exact W.vret hx hb hr (fun t ht hW => ⟨⟨(q_82, q_83, rt, ru, (upd (upd fi slot.toNatClampNeg 2) x_65.toNatClampNeg r_71)), rfl, ⟨(show 0 ≤ q_82.toInt ∧ q_82.toInt ≤ 160 from hbq_82), (show (-1) ≤ q_83.toInt ∧ q_83.toInt ≤ 160 from hbq_83), (show 0 ≤ rt.toInt ∧ rt.toInt ≤ 40 from ⟨hy9, hy10⟩), (show 0 ≤ ru.toInt ∧ ru.toInt ≤ 8 from ⟨hy11, hy12⟩), (show q_82.toInt ≤ rz.toInt from by omega), (show (q_83.toInt = -1 → zIt (upd (upd fi slot.toNatClampNeg 2) x_65.toNatClampNeg r_71) slot.toInt.toNat) from by (intro h; exfalso; omega)), (show (∀ j : Nat, j < slot.toInt.toNat → (upd (upd fi slot.toNatClampNeg 2) x_65.toNatClampNeg r_71) j = fi j) from by (intro j hj; simp only [upd]; rw [if_neg (by omega), if_neg (by omega)])), (show (q_83.toInt = (zItem fl rz.toInt rp.toInt rt.toInt ru.toInt).1 ∧ (q_83.toInt = -1 → q_82.toInt = (zItem fl rz.toInt rp.toInt rt.toInt ru.toInt).2.1 ∧ rt.toInt = (zItem fl rz.toInt rp.toInt rt.toInt ru.toInt).2.2.1 ∧ ru.toInt = (zItem fl rz.toInt rp.toInt rt.toInt ru.toInt).2.2.2)) from by (have z9 := hsr_1_1; rw [kc2] at z9; have hq : zFst fl rz.toInt rp.toInt zWds 10 = 2 ∧ ¬ ((2 : Int) = 3 ∧ ru.toInt = 8) := (by omega); have hl9 : (q_3 : Int32).toInt = rp.toInt + ((zWds ((2 : Int)).toNat).length : Nat) := (by omega); rw [zItem_w hq.1 (by decide) hq.2 hl9 hI]; dsimp only; exact ⟨by (first | rfl | omega), fun h => ⟨by (first | rfl | omega), by (show _ = (if (2 : Int) = 0 then _ else _); rw [if_neg (by decide)]), by (show _ = (if (2 : Int) = 3 then _ else _); rw [if_neg (by decide)])⟩⟩)), (show (q_83.toInt = -1 → (((upd (upd fi slot.toNatClampNeg 2) x_65.toNatClampNeg r_71) slot.toInt.toNat).toInt = 0 → rt.toInt = ((upd (upd fi slot.toNatClampNeg 2) x_65.toNatClampNeg r_71) (slot.toInt.toNat + 1)).toInt) ∧ (((upd (upd fi slot.toNatClampNeg 2) x_65.toNatClampNeg r_71) slot.toInt.toNat).toInt ≠ 0 → rt.toInt = rt.toInt) ∧ (((upd (upd fi slot.toNatClampNeg 2) x_65.toNatClampNeg r_71) slot.toInt.toNat).toInt = 3 → ru.toInt = ru.toInt + 1) ∧ (((upd (upd fi slot.toNatClampNeg 2) x_65.toNatClampNeg r_71) slot.toInt.toNat).toInt ≠ 3 → ru.toInt = ru.toInt)) from by (intro h; exfalso; omega)), (show (q_83.toInt = -1 → zSm (zDS (upd (upd fi slot.toNatClampNeg 2) x_65.toNatClampNeg r_71) slot.toInt.toNat) (zIm fl rz.toInt rp.toInt rt.toInt)) from by (intro h; exfalso; omega)), trivial⟩, zRet ht hP hD [1, 2, 0] (by decide) rfl⟩, hS.F ht⟩) hS.2.2 dX3_readItem_75
              · have fc_84 : q_83.toInt = (-1) := zf_eq c_84 rfl (by decide)
                refine lv_aload_n hx hb dX3_readItem_42 rfl (lv_at hl 2 rfl) ?_
                refine va_get (D := D) (ci := 3) (v := .ref ri) (C := RX3) (T := TX3) (N := 8) hx hb hts hi_X3_readItem_3 hown hK hP 1 rfl rfl 0 (by decide) (hts (.fieldLink RX3 11 "TheLiningsInIt$Reader" "items" "[I") (List.mem_of_getElem? (i := 1) rfl)) (fun _ h9 => h9) rfl dX3_readItem_43 ?_
                refine lv_iload_n hx hb dX3_readItem_46 rfl (lv_at hl 3 rfl) ?_
                refine lv_iconst (v := 1) hx hb dX3_readItem_47 (by decide) ?_
                refine lv_iadd hx hb dX3_readItem_48 ?_
                refine lv_topi (fun y_86 ey_86 => ?_)
                obtain rfl : x_65 = y_86 := ex_65.trans ey_86.symm
                refine lv_iload_n hx hb dX3_readItem_49 rfl (lv_at hl 0 rfl) ?_
                refine lv_iadd hx hb dX3_readItem_50 ?_
                refine lv_topi (fun x_87 ex_87 => ?_)
                have qx_87 : x_87.toInt = x_65.toInt + 1 := by rw [ex_87]; exact zf_add rfl (by decide) (by omega) (by omega)
                refine lv_aload_n hx hb dX3_readItem_51 rfl (lv_at hl 2 rfl) ?_
                refine lv_iload_n hx hb dX3_readItem_52 rfl (lv_at hl 1 rfl) ?_
                refine lv_iload_n hx hb dX3_readItem_53 rfl (lv_at hl 0 rfl) ?_
                refine zc_S (As := [.int 2, .int 1]) (rest := [.ref rd, .int x_87, .ref ri]) ⟨hx, hb, hml, hown, hts⟩ (c_R_leastOf_2_1 l D cI cJ cZ cP cS po  ) (va_cwS 2 hts gX3_readItem_X3_leastOf rfl rfl rfl dh_X3_leastOf ⟨Nat.le_of_ble_eq_true rfl, Nat.le_of_ble_eq_true rfl⟩) hK hN (hZ.kept hS) rfl hl.1 rfl (Nat.le_of_ble_eq_true rfl) dX3_readItem_54 ⟨Nat.le_of_ble_eq_true rfl, Nat.le_of_ble_eq_true rfl⟩ (fun r_88 hr_88 => ?_)
                obtain rfl := hr_88
                refine lv_aload_n hx hb dX3_readItem_57 rfl (lv_at hl 2 rfl) ?_
                refine lv_iload_n hx hb dX3_readItem_58 rfl (lv_at hl 1 rfl) ?_
                refine lv_iload_n hx hb dX3_readItem_59 rfl (lv_at hl 0 rfl) ?_
                refine zc_V (As := [.int 2, .int 1]) (rest := [.int 0, .ref rd, .int x_87, .ref ri]) ⟨hx, hb, hml, hown, hts⟩ (c_R_mostOf_2_1 l D cI cJ cZ cP cS po rd ri rl (rz) (rc) (q_82) (q_83) (rt) (ru) hy0 hy1 hy2 hy3 hbq_82.1 hbq_82.2 (by omega) hbq_83.1 hbq_83.2 hy9 hy10 hy11 hy12) (cwV 2 hts gX3_readItem_X3_mostOf rfl rfl rfl ⟨rfl, dh_X3_mostOf⟩ ⟨Nat.le_of_ble_eq_true rfl, Nat.le_of_ble_eq_true rfl⟩) hK hN (hZ.kept hS) hP (hP.sub [1] rfl) (va_recv (q := (RX3, TX3, 8)) hK hP (ci := 3) (q0 := 1) rfl rfl) rfl hl.1 rfl (Nat.le_of_ble_eq_true rfl) dX3_readItem_60 ⟨Nat.le_of_ble_eq_true rfl, Nat.le_of_ble_eq_true rfl⟩ (fun r_89 hr_89 => ?_)
                obtain rfl := hr_89
                have kc9 : (9 : Int32).toInt = 9 := by decide
                skip
                refine zw_V (As := [.int 0, .int 9]) (rest := [.int x_87, .ref ri]) (wr := [(ri, .inl (cI, 132, .inl (upd (upd fi slot.toNatClampNeg 2) x_65.toNatClampNeg r_71)))]) ⟨hx, hb, hml, hown, hts⟩ (c_F_R_readNumber l D cI cJ cZ cP cS po rd ri rl (rz) (rc) (q_82) (q_83) (rt) (ru) fl (0) (9) hy0 hy1 hy2 hy3 hbq_82.1 hbq_82.2 (by omega) hbq_83.1 hbq_83.2 hy9 hy10 hy11 hy12 H.size) (cwV 2 hts gX3_readItem_X3_readNumber rfl rfl rfl ⟨rfl, dh_X3_readNumber⟩ ⟨Nat.le_of_ble_eq_true rfl, Nat.le_of_ble_eq_true rfl⟩) hK hN (hZ.kept hS) hP hD hS hA [1, 2] [0] rfl rfl (by decide) (by decide) (by decide) (va_recv (q := (RX3, TX3, 8)) hK hP (ci := 3) (q0 := 1) rfl rfl) rfl hl.1 rfl (Nat.le_of_ble_eq_true rfl) dX3_readItem_63 ⟨Nat.le_of_ble_eq_true rfl, Nat.le_of_ble_eq_true rfl⟩ (fun r_90 u_91 H locs hr_90 hP hD hS => ?_)
                obtain ⟨q_92, q_93⟩ := u_91
                try dsimp only at hr_90
                obtain ⟨hbq_92, hbq_93, hsr_90_0, hsr_90_1, hsr_90_2, hsr_90_3, hr_90⟩ := hr_90
                have h9R := zRe (ws' := [(ri, .inl (cI, 132, .inl (upd (upd fi slot.toNatClampNeg 2) x_65.toNatClampNeg r_71))), (rd, .inr (3, [.ref ri, .ref rl, .int rz, .int rc, .int q_92, .int q_93, .int rt, .int ru])), (rl, .inl (cI, 160, .inl fl))]) hP hD rfl
                clear hP hD
                obtain ⟨hP, hD⟩ := h9R
                obtain ⟨g_94, g_95⟩ := hr_90
                refine va_iast hx hb hK hP hD hS 0 0 rfl rfl (zf_in (by omega) (by omega)) dX3_readItem_66 (fun H locs hP hD hS => ?_)
                have h9R := zRe (ws' := [(ri, .inl (cI, 132, .inl (upd (upd (upd fi slot.toNatClampNeg 2) x_65.toNatClampNeg r_71) x_87.toNatClampNeg r_90))), (rd, .inr (3, [.ref ri, .ref rl, .int rz, .int rc, .int q_92, .int q_93, .int rt, .int ru])), (rl, .inl (cI, 160, .inl fl))]) hP hD rfl
                clear hP hD
                obtain ⟨hP, hD⟩ := h9R
                have hn1 : zN1 fl rz.toInt (q_73 : Int32).toInt (zLo 2 1) (zHi 2 1 rt.toInt) = ((q_93 : Int32).toInt, (q_92 : Int32).toInt, r_90.toInt) := zN1_yes (p1 := (q_82 : Int32).toInt) (lo2 := ((0 : Int32)).toInt) (hi2 := ((9 : Int32)).toInt) (by omega) (by omega) hsr_90_1 hsr_90_2 (by first | decide | (show (0 : Int) = _; omega)) (by first | decide | (show (9 : Int) = _; decide) | (show rt.toInt - 1 = _; omega) | (show rt.toInt = _; omega)) (by omega)
                refine lv_aload_n hx hb dX3_readItem_67 rfl (lv_at hl 2 rfl) ?_
                refine va_get (D := D) (ci := 3) (v := .int q_93) (C := RX3) (T := TX3) (N := 8) hx hb hts hi_X3_readItem_3 hown hK hP 1 rfl rfl 5 (by decide) (hts (.fieldLink RX3 28 "TheLiningsInIt$Reader" "fault" "I") (List.mem_of_getElem? (i := 2) rfl)) (fun _ h9 => h9) rfl dX3_readItem_68 ?_
                refine lv_iconst (v := (-1)) hx hb dX3_readItem_71 (by decide) ?_
                refine lv_icmp_eq (tgt := 76) hx hb dX3_readItem_72 (by decide) (fun c_96 => ?_) (fun c_96 => ?_)
                · have fc_96 : q_93.toInt = (-1) := zf_eq c_96 rfl (by decide)
                  refine lv_iinc (v := 2) (lv' := [(3, .int 2), (2, .int 2), (0, .ref rd), (1, .int slot)]) hx hb dX3_readItem_76 hl (k := 0) rfl (by decide) (by decide) rfl (fun ls hl => ?_)
                  refine lv_goto (tgt := 20) hx hb dX3_readItem_79 (by decide) ?_
                  refine lv_iload_n hx hb dX3_readItem_20 rfl (lv_at hl 0 rfl) ?_
                  refine lv_iload_n hx hb dX3_readItem_21 rfl (lv_at hl 1 rfl) ?_
                  refine zc_S (As := [.int 2]) (rest := [.int 2]) ⟨hx, hb, hml, hown, hts⟩ (c_R_numbersOf_2 l D cI cJ cZ cP cS po  ) (va_cwS 1 hts gX3_readItem_X3_numbersOf rfl rfl rfl dh_X3_numbersOf ⟨Nat.le_of_ble_eq_true rfl, Nat.le_of_ble_eq_true rfl⟩) hK hN (hZ.kept hS) rfl hl.1 rfl (Nat.le_of_ble_eq_true rfl) dX3_readItem_22 ⟨Nat.le_of_ble_eq_true rfl, Nat.le_of_ble_eq_true rfl⟩ (fun r_97 hr_97 => ?_)
                  obtain rfl := hr_97
                  refine lv_icmp_ge (tgt := 82) hx hb dX3_readItem_25 (by decide) (fun c_98 => ?_) (fun c_98 => ?_)
                  · refine lv_iload_n hx hb dX3_readItem_82 rfl (lv_at hl 1 rfl) ?_
                    refine lv_if_ne (tgt := 101) hx hb dX3_readItem_83 (by decide) (fun c_99 => ?_) (fun c_99 => ?_)
                    · refine lv_iload_n hx hb dX3_readItem_101 rfl (lv_at hl 1 rfl) ?_
                      refine lv_iconst (v := 3) hx hb dX3_readItem_102 (by decide) ?_
                      refine lv_icmp_ne (tgt := 116) hx hb dX3_readItem_103 (by decide) (fun c_100 => ?_) (fun c_100 => ?_)
                      · have e0 : slot.toNatClampNeg = slot.toInt.toNat + 0 := (by show (slot : Int32).toInt.toNat = _; omega)
                        have e1 : x_65.toNatClampNeg = slot.toInt.toNat + 1 := (by show (x_65 : Int32).toInt.toNat = _; omega)
                        have e2 : x_87.toNatClampNeg = slot.toInt.toNat + 2 := (by show (x_87 : Int32).toInt.toNat = _; omega)
                        have hI := zIn_b (by have z := hn0; rw [show (q_74 : Int32).toInt = -1 from by omega] at z; exact z) (by decide) hn1 (by first | (right; decide) | (left; omega))
                        exact W.vret hx hb hr (fun t ht hW => ⟨⟨(q_92, q_93, rt, ru, (upd (upd (upd fi slot.toNatClampNeg 2) x_65.toNatClampNeg r_71) x_87.toNatClampNeg r_90)), rfl, ⟨(show 0 ≤ q_92.toInt ∧ q_92.toInt ≤ 160 from hbq_92), (show (-1) ≤ q_93.toInt ∧ q_93.toInt ≤ 160 from hbq_93), (show 0 ≤ rt.toInt ∧ rt.toInt ≤ 40 from ⟨hy9, hy10⟩), (show 0 ≤ ru.toInt ∧ ru.toInt ≤ 8 from ⟨hy11, hy12⟩), (show q_92.toInt ≤ rz.toInt from by omega), (show (q_93.toInt = -1 → zIt (upd (upd (upd fi slot.toNatClampNeg 2) x_65.toNatClampNeg r_71) x_87.toNatClampNeg r_90) slot.toInt.toNat) from by (intro h; have k4 : (2 : Int32).toInt = 2 := (by decide); exact zIt_mk (by simp only [upd]; rw [if_neg (by omega), if_neg (by omega), if_pos (by omega)]) (by simp only [upd]; rw [if_neg (by omega), if_pos (by omega)]) (by simp only [upd]; rw [if_pos (by omega)]) (rfl) (by unfold zItv; refine ⟨?_, ?_, ?_, ?_, ?_, ?_, ?_, ?_, ?_, ?_, ?_⟩ <;> (intros; omega)))), (show (∀ j : Nat, j < slot.toInt.toNat → (upd (upd (upd fi slot.toNatClampNeg 2) x_65.toNatClampNeg r_71) x_87.toNatClampNeg r_90) j = fi j) from by (intro j hj; simp only [upd]; rw [if_neg (by omega), if_neg (by omega), if_neg (by omega)])), (show (q_93.toInt = (zItem fl rz.toInt rp.toInt rt.toInt ru.toInt).1 ∧ (q_93.toInt = -1 → q_92.toInt = (zItem fl rz.toInt rp.toInt rt.toInt ru.toInt).2.1 ∧ rt.toInt = (zItem fl rz.toInt rp.toInt rt.toInt ru.toInt).2.2.1 ∧ ru.toInt = (zItem fl rz.toInt rp.toInt rt.toInt ru.toInt).2.2.2)) from by (have z9 := hsr_1_1; rw [kc2] at z9; have hq : zFst fl rz.toInt rp.toInt zWds 10 = 2 ∧ ¬ ((2 : Int) = 3 ∧ ru.toInt = 8) := (by omega); have hl9 : (q_3 : Int32).toInt = rp.toInt + ((zWds ((2 : Int)).toNat).length : Nat) := (by omega); rw [zItem_w hq.1 (by decide) hq.2 hl9 hI]; dsimp only; exact ⟨by (first | rfl | omega), fun h => ⟨by (first | rfl | omega), by (show _ = (if (2 : Int) = 0 then _ else _); rw [if_neg (by decide)]), by (show _ = (if (2 : Int) = 3 then _ else _); rw [if_neg (by decide)])⟩⟩)), (show (q_93.toInt = -1 → (((upd (upd (upd fi slot.toNatClampNeg 2) x_65.toNatClampNeg r_71) x_87.toNatClampNeg r_90) slot.toInt.toNat).toInt = 0 → rt.toInt = ((upd (upd (upd fi slot.toNatClampNeg 2) x_65.toNatClampNeg r_71) x_87.toNatClampNeg r_90) (slot.toInt.toNat + 1)).toInt) ∧ (((upd (upd (upd fi slot.toNatClampNeg 2) x_65.toNatClampNeg r_71) x_87.toNatClampNeg r_90) slot.toInt.toNat).toInt ≠ 0 → rt.toInt = rt.toInt) ∧ (((upd (upd (upd fi slot.toNatClampNeg 2) x_65.toNatClampNeg r_71) x_87.toNatClampNeg r_90) slot.toInt.toNat).toInt = 3 → ru.toInt = ru.toInt + 1) ∧ (((upd (upd (upd fi slot.toNatClampNeg 2) x_65.toNatClampNeg r_71) x_87.toNatClampNeg r_90) slot.toInt.toNat).toInt ≠ 3 → ru.toInt = ru.toInt)) from by (intro h; have g0 : (upd (upd (upd fi slot.toNatClampNeg 2) x_65.toNatClampNeg r_71) x_87.toNatClampNeg r_90) slot.toInt.toNat = (2 : Int32) := (by simp only [upd]; rw [if_neg (by omega), if_neg (by omega), if_pos (by omega)]); have g1 : (upd (upd (upd fi slot.toNatClampNeg 2) x_65.toNatClampNeg r_71) x_87.toNatClampNeg r_90) (slot.toInt.toNat + 1) = (r_71 : Int32) := (by simp only [upd]; rw [if_neg (by omega), if_pos (by omega)]); rw [g0, g1]; refine ⟨?_, ?_, ?_, ?_⟩ <;> (intro h9; first | rfl | omega | (exfalso; omega)))), (show (q_93.toInt = -1 → zSm (zDS (upd (upd (upd fi slot.toNatClampNeg 2) x_65.toNatClampNeg r_71) x_87.toNatClampNeg r_90) slot.toInt.toNat) (zIm fl rz.toInt rp.toInt rt.toInt)) from by (intro h; have g0 : (upd (upd (upd fi slot.toNatClampNeg 2) x_65.toNatClampNeg r_71) x_87.toNatClampNeg r_90) (slot.toInt.toNat + 0) = (2 : Int32) := (by simp only [upd]; rw [if_neg (by omega), if_neg (by omega), if_pos (by omega)]); have g1 : (upd (upd (upd fi slot.toNatClampNeg 2) x_65.toNatClampNeg r_71) x_87.toNatClampNeg r_90) (slot.toInt.toNat + 1) = (r_71 : Int32) := (by simp only [upd]; rw [if_neg (by omega), if_pos (by omega)]); have g2 : (upd (upd (upd fi slot.toNatClampNeg 2) x_65.toNatClampNeg r_71) x_87.toNatClampNeg r_90) (slot.toInt.toNat + 2) = (r_90 : Int32) := (by simp only [upd]; rw [if_pos (by omega)]); have z9 := hsr_1_1; rw [kc2] at z9; have hW : zIW fl rz.toInt rp.toInt = 2 := (by unfold zIW; omega); have hP9 : zIP fl rz.toInt rp.toInt = (q_3 : Int32).toInt := (by unfold zIP; rw [hW]; have hl9 : (q_3 : Int32).toInt = rp.toInt + ((zWds ((2 : Int)).toNat).length : Nat) := (by omega); exact hl9.symm); exact ⟨(show ((upd (upd (upd fi slot.toNatClampNeg 2) x_65.toNatClampNeg r_71) x_87.toNatClampNeg r_90) (slot.toInt.toNat + 0)).toInt = zIW fl rz.toInt rp.toInt from by (rw [g0, hW]; omega)), (show ((upd (upd (upd fi slot.toNatClampNeg 2) x_65.toNatClampNeg r_71) x_87.toNatClampNeg r_90) (slot.toInt.toNat + 1)).toInt = (zIn fl rz.toInt (zIP fl rz.toInt rp.toInt) rt.toInt (zIW fl rz.toInt rp.toInt)).2.2 from by (rw [g1, hP9, hW, hI])), fun hz => (show ((upd (upd (upd fi slot.toNatClampNeg 2) x_65.toNatClampNeg r_71) x_87.toNatClampNeg r_90) (slot.toInt.toNat + 2)).toInt = zV2 fl rz.toInt (zIP fl rz.toInt rp.toInt) rt.toInt (zIW fl rz.toInt rp.toInt) from by (rw [g2, hP9, hW]; exact (zV2_eq hn0 hn1).symm)), fun hz => absurd (show ((upd (upd (upd fi slot.toNatClampNeg 2) x_65.toNatClampNeg r_71) x_87.toNatClampNeg r_90) (slot.toInt.toNat + 0)).toInt = 3 from hz) (by rw [g0]; omega)⟩)), trivial⟩, zRet ht hP hD [1, 2, 0] (by decide) rfl⟩, hS.F ht⟩) hS.2.2 dX3_readItem_116
                      · exact absurd c_100 (by decide)
                    · exact absurd c_99 (by decide)
                  · exact absurd c_98 (by decide)
                · have fc_96 : q_93.toInt ≠ (-1) := zf_ne c_96 rfl (by decide)
                  have e0 : slot.toNatClampNeg = slot.toInt.toNat + 0 := (by show (slot : Int32).toInt.toNat = _; omega)
                  have e1 : x_65.toNatClampNeg = slot.toInt.toNat + 1 := (by show (x_65 : Int32).toInt.toNat = _; omega)
                  have e2 : x_87.toNatClampNeg = slot.toInt.toNat + 2 := (by show (x_87 : Int32).toInt.toNat = _; omega)
                  have hI := zIn_b (by have z := hn0; rw [show (q_74 : Int32).toInt = -1 from by omega] at z; exact z) (by decide) hn1 (by first | (right; decide) | (left; omega))
                  exact W.vret hx hb hr (fun t ht hW => ⟨⟨(q_92, q_93, rt, ru, (upd (upd (upd fi slot.toNatClampNeg 2) x_65.toNatClampNeg r_71) x_87.toNatClampNeg r_90)), rfl, ⟨(show 0 ≤ q_92.toInt ∧ q_92.toInt ≤ 160 from hbq_92), (show (-1) ≤ q_93.toInt ∧ q_93.toInt ≤ 160 from hbq_93), (show 0 ≤ rt.toInt ∧ rt.toInt ≤ 40 from ⟨hy9, hy10⟩), (show 0 ≤ ru.toInt ∧ ru.toInt ≤ 8 from ⟨hy11, hy12⟩), (show q_92.toInt ≤ rz.toInt from by omega), (show (q_93.toInt = -1 → zIt (upd (upd (upd fi slot.toNatClampNeg 2) x_65.toNatClampNeg r_71) x_87.toNatClampNeg r_90) slot.toInt.toNat) from by (intro h; exfalso; omega)), (show (∀ j : Nat, j < slot.toInt.toNat → (upd (upd (upd fi slot.toNatClampNeg 2) x_65.toNatClampNeg r_71) x_87.toNatClampNeg r_90) j = fi j) from by (intro j hj; simp only [upd]; rw [if_neg (by omega), if_neg (by omega), if_neg (by omega)])), (show (q_93.toInt = (zItem fl rz.toInt rp.toInt rt.toInt ru.toInt).1 ∧ (q_93.toInt = -1 → q_92.toInt = (zItem fl rz.toInt rp.toInt rt.toInt ru.toInt).2.1 ∧ rt.toInt = (zItem fl rz.toInt rp.toInt rt.toInt ru.toInt).2.2.1 ∧ ru.toInt = (zItem fl rz.toInt rp.toInt rt.toInt ru.toInt).2.2.2)) from by (have z9 := hsr_1_1; rw [kc2] at z9; have hq : zFst fl rz.toInt rp.toInt zWds 10 = 2 ∧ ¬ ((2 : Int) = 3 ∧ ru.toInt = 8) := (by omega); have hl9 : (q_3 : Int32).toInt = rp.toInt + ((zWds ((2 : Int)).toNat).length : Nat) := (by omega); rw [zItem_w hq.1 (by decide) hq.2 hl9 hI]; dsimp only; exact ⟨by (first | rfl | omega), fun h => ⟨by (first | rfl | omega), by (show _ = (if (2 : Int) = 0 then _ else _); rw [if_neg (by decide)]), by (show _ = (if (2 : Int) = 3 then _ else _); rw [if_neg (by decide)])⟩⟩)), (show (q_93.toInt = -1 → (((upd (upd (upd fi slot.toNatClampNeg 2) x_65.toNatClampNeg r_71) x_87.toNatClampNeg r_90) slot.toInt.toNat).toInt = 0 → rt.toInt = ((upd (upd (upd fi slot.toNatClampNeg 2) x_65.toNatClampNeg r_71) x_87.toNatClampNeg r_90) (slot.toInt.toNat + 1)).toInt) ∧ (((upd (upd (upd fi slot.toNatClampNeg 2) x_65.toNatClampNeg r_71) x_87.toNatClampNeg r_90) slot.toInt.toNat).toInt ≠ 0 → rt.toInt = rt.toInt) ∧ (((upd (upd (upd fi slot.toNatClampNeg 2) x_65.toNatClampNeg r_71) x_87.toNatClampNeg r_90) slot.toInt.toNat).toInt = 3 → ru.toInt = ru.toInt + 1) ∧ (((upd (upd (upd fi slot.toNatClampNeg 2) x_65.toNatClampNeg r_71) x_87.toNatClampNeg r_90) slot.toInt.toNat).toInt ≠ 3 → ru.toInt = ru.toInt)) from by (intro h; exfalso; omega)), (show (q_93.toInt = -1 → zSm (zDS (upd (upd (upd fi slot.toNatClampNeg 2) x_65.toNatClampNeg r_71) x_87.toNatClampNeg r_90) slot.toInt.toNat) (zIm fl rz.toInt rp.toInt rt.toInt)) from by (intro h; exfalso; omega)), trivial⟩, zRet ht hP hD [1, 2, 0] (by decide) rfl⟩, hS.F ht⟩) hS.2.2 dX3_readItem_75
          · have fc_77 : q_74.toInt ≠ (-1) := zf_ne c_77 rfl (by decide)
            have e0 : slot.toNatClampNeg = slot.toInt.toNat + 0 := (by show (slot : Int32).toInt.toNat = _; omega)
            have e1 : x_65.toNatClampNeg = slot.toInt.toNat + 1 := (by show (x_65 : Int32).toInt.toNat = _; omega)
            have hI := zIn_a hn0 (by first | (right; decide) | (left; omega))
            exact W.vret hx hb hr (fun t ht hW => ⟨⟨(q_73, q_74, rt, ru, (upd (upd fi slot.toNatClampNeg 2) x_65.toNatClampNeg r_71)), rfl, ⟨(show 0 ≤ q_73.toInt ∧ q_73.toInt ≤ 160 from hbq_73), (show (-1) ≤ q_74.toInt ∧ q_74.toInt ≤ 160 from hbq_74), (show 0 ≤ rt.toInt ∧ rt.toInt ≤ 40 from ⟨hy9, hy10⟩), (show 0 ≤ ru.toInt ∧ ru.toInt ≤ 8 from ⟨hy11, hy12⟩), (show q_73.toInt ≤ rz.toInt from by omega), (show (q_74.toInt = -1 → zIt (upd (upd fi slot.toNatClampNeg 2) x_65.toNatClampNeg r_71) slot.toInt.toNat) from by (intro h; exfalso; omega)), (show (∀ j : Nat, j < slot.toInt.toNat → (upd (upd fi slot.toNatClampNeg 2) x_65.toNatClampNeg r_71) j = fi j) from by (intro j hj; simp only [upd]; rw [if_neg (by omega), if_neg (by omega)])), (show (q_74.toInt = (zItem fl rz.toInt rp.toInt rt.toInt ru.toInt).1 ∧ (q_74.toInt = -1 → q_73.toInt = (zItem fl rz.toInt rp.toInt rt.toInt ru.toInt).2.1 ∧ rt.toInt = (zItem fl rz.toInt rp.toInt rt.toInt ru.toInt).2.2.1 ∧ ru.toInt = (zItem fl rz.toInt rp.toInt rt.toInt ru.toInt).2.2.2)) from by (have z9 := hsr_1_1; rw [kc2] at z9; have hq : zFst fl rz.toInt rp.toInt zWds 10 = 2 ∧ ¬ ((2 : Int) = 3 ∧ ru.toInt = 8) := (by omega); have hl9 : (q_3 : Int32).toInt = rp.toInt + ((zWds ((2 : Int)).toNat).length : Nat) := (by omega); rw [zItem_w hq.1 (by decide) hq.2 hl9 hI]; dsimp only; exact ⟨by (first | rfl | omega), fun h => ⟨by (first | rfl | omega), by (show _ = (if (2 : Int) = 0 then _ else _); rw [if_neg (by decide)]), by (show _ = (if (2 : Int) = 3 then _ else _); rw [if_neg (by decide)])⟩⟩)), (show (q_74.toInt = -1 → (((upd (upd fi slot.toNatClampNeg 2) x_65.toNatClampNeg r_71) slot.toInt.toNat).toInt = 0 → rt.toInt = ((upd (upd fi slot.toNatClampNeg 2) x_65.toNatClampNeg r_71) (slot.toInt.toNat + 1)).toInt) ∧ (((upd (upd fi slot.toNatClampNeg 2) x_65.toNatClampNeg r_71) slot.toInt.toNat).toInt ≠ 0 → rt.toInt = rt.toInt) ∧ (((upd (upd fi slot.toNatClampNeg 2) x_65.toNatClampNeg r_71) slot.toInt.toNat).toInt = 3 → ru.toInt = ru.toInt + 1) ∧ (((upd (upd fi slot.toNatClampNeg 2) x_65.toNatClampNeg r_71) slot.toInt.toNat).toInt ≠ 3 → ru.toInt = ru.toInt)) from by (intro h; exfalso; omega)), (show (q_74.toInt = -1 → zSm (zDS (upd (upd fi slot.toNatClampNeg 2) x_65.toNatClampNeg r_71) slot.toInt.toNat) (zIm fl rz.toInt rp.toInt rt.toInt)) from by (intro h; exfalso; omega)), trivial⟩, zRet ht hP hD [1, 2, 0] (by decide) rfl⟩, hS.F ht⟩) hS.2.2 dX3_readItem_75
    · have kc3 : (3 : Int32).toInt = 3 := by decide
      refine lv_aload_n hx hb dX3_readItem_11 rfl (lv_at hl 1 rfl) ?_
      refine va_get (D := D) (ci := 3) (v := .ref ri) (C := RX3) (T := TX3) (N := 8) hx hb hts hi_X3_readItem_3 hown hK hP 1 rfl rfl 0 (by decide) (hts (.fieldLink RX3 11 "TheLiningsInIt$Reader" "items" "[I") (List.mem_of_getElem? (i := 1) rfl)) (fun _ h9 => h9) rfl dX3_readItem_12 ?_
      refine lv_iload_n hx hb dX3_readItem_15 rfl (lv_at hl 2 rfl) ?_
      refine lv_iload_n hx hb dX3_readItem_16 rfl (lv_at hl 0 rfl) ?_
      refine va_iast hx hb hK hP hD hS 0 0 rfl rfl (zf_in (by omega) (by omega)) dX3_readItem_17 (fun H locs hP hD hS => ?_)
      have h9R := zRe (ws' := [(ri, .inl (cI, 132, .inl (upd fi slot.toNatClampNeg 3))), (rd, .inr (3, [.ref ri, .ref rl, .int rz, .int rc, .int q_3, .int q_4, .int rt, .int ru])), (rl, .inl (cI, 160, .inl fl))]) hP hD rfl
      clear hP hD
      obtain ⟨hP, hD⟩ := h9R
      refine lv_iconst (v := 0) hx hb dX3_readItem_18 (by decide) ?_
      refine lv_istore_n (lv' := [(3, .int 0), (2, .int 3), (0, .ref rd), (1, .int slot)]) hx hb dX3_readItem_19 rfl hl (by decide) rfl (fun ls hl => ?_)
      refine lv_iload_n hx hb dX3_readItem_20 rfl (lv_at hl 0 rfl) ?_
      refine lv_iload_n hx hb dX3_readItem_21 rfl (lv_at hl 1 rfl) ?_
      refine zc_S (As := [.int 3]) (rest := [.int 0]) ⟨hx, hb, hml, hown, hts⟩ (c_R_numbersOf_3 l D cI cJ cZ cP cS po  ) (va_cwS 1 hts gX3_readItem_X3_numbersOf rfl rfl rfl dh_X3_numbersOf ⟨Nat.le_of_ble_eq_true rfl, Nat.le_of_ble_eq_true rfl⟩) hK hN (hZ.kept hS) rfl hl.1 rfl (Nat.le_of_ble_eq_true rfl) dX3_readItem_22 ⟨Nat.le_of_ble_eq_true rfl, Nat.le_of_ble_eq_true rfl⟩ (fun r_101 hr_101 => ?_)
      obtain rfl := hr_101
      refine lv_icmp_ge (tgt := 82) hx hb dX3_readItem_25 (by decide) (fun c_102 => ?_) (fun c_102 => ?_)
      · exact absurd c_102 (by decide)
      · refine lv_aload_n hx hb dX3_readItem_28 rfl (lv_at hl 2 rfl) ?_
        refine lv_bipush (v := 32) hx hb dX3_readItem_29 (by decide) ?_
        have kc32 : (32 : Int32).toInt = 32 := by decide
        skip
        refine zw_Vv (As := [.int 32]) (rest := []) (wr := [(ri, .inl (cI, 132, .inl (upd fi slot.toNatClampNeg 3)))]) ⟨hx, hb, hml, hown, hts⟩ (c_F_R_expect l D cI cJ cZ cP cS po rd ri rl (rz) (rc) (q_3) (q_4) (rt) (ru) fl (32) hy0 hy1 hy2 hy3 hbq_3.1 hbq_3.2 (by omega) hbq_4.1 hbq_4.2 hy9 hy10 hy11 hy12 H.size) (cwV 1 hts gX3_readItem_X3_expect rfl rfl rfl ⟨rfl, dh_X3_expect⟩ ⟨Nat.le_of_ble_eq_true rfl, Nat.le_of_ble_eq_true rfl⟩) hK hN (hZ.kept hS) hP hD hS hA [1, 2] [0] rfl rfl (by decide) (by decide) (by decide) (va_recv (q := (RX3, TX3, 8)) hK hP (ci := 3) (q0 := 1) rfl rfl) rfl hl.1 rfl (Nat.le_of_ble_eq_true rfl) dX3_readItem_31 ⟨Nat.le_of_ble_eq_true rfl, Nat.le_of_ble_eq_true rfl⟩ (fun u_104 H locs hr_103 hP hD hS => ?_)
        obtain ⟨q_105, q_106⟩ := u_104
        try dsimp only at hr_103
        obtain ⟨hbq_105, hbq_106, hsr_103_0, hsr_103_1, hr_103⟩ := hr_103
        have h9R := zRe (ws' := [(ri, .inl (cI, 132, .inl (upd fi slot.toNatClampNeg 3))), (rd, .inr (3, [.ref ri, .ref rl, .int rz, .int rc, .int q_105, .int q_106, .int rt, .int ru])), (rl, .inl (cI, 160, .inl fl))]) hP hD rfl
        clear hP hD
        obtain ⟨hP, hD⟩ := h9R
        refine lv_aload_n hx hb dX3_readItem_34 rfl (lv_at hl 2 rfl) ?_
        refine va_get (D := D) (ci := 3) (v := .int q_106) (C := RX3) (T := TX3) (N := 8) hx hb hts hi_X3_readItem_3 hown hK hP 1 rfl rfl 5 (by decide) (hts (.fieldLink RX3 28 "TheLiningsInIt$Reader" "fault" "I") (List.mem_of_getElem? (i := 2) rfl)) (fun _ h9 => h9) rfl dX3_readItem_35 ?_
        refine lv_iconst (v := (-1)) hx hb dX3_readItem_38 (by decide) ?_
        refine lv_icmp_ne (tgt := 67) hx hb dX3_readItem_39 (by decide) (fun c_107 => ?_) (fun c_107 => ?_)
        · have fc_107 : q_106.toInt ≠ (-1) := zf_ne c_107 rfl (by decide)
          have hn0 : zN1 fl rz.toInt (q_3 : Int32).toInt (zLo 3 0) (zHi 3 0 rt.toInt) = ((q_3 : Int32).toInt, (q_3 : Int32).toInt, 0) := zN1_no (by omega)
          refine lv_aload_n hx hb dX3_readItem_67 rfl (lv_at hl 2 rfl) ?_
          refine va_get (D := D) (ci := 3) (v := .int q_106) (C := RX3) (T := TX3) (N := 8) hx hb hts hi_X3_readItem_3 hown hK hP 1 rfl rfl 5 (by decide) (hts (.fieldLink RX3 28 "TheLiningsInIt$Reader" "fault" "I") (List.mem_of_getElem? (i := 2) rfl)) (fun _ h9 => h9) rfl dX3_readItem_68 ?_
          refine lv_iconst (v := (-1)) hx hb dX3_readItem_71 (by decide) ?_
          refine lv_icmp_eq (tgt := 76) hx hb dX3_readItem_72 (by decide) (fun c_108 => ?_) (fun c_108 => ?_)
          · exfalso; have fc_108 : q_106.toInt = (-1) := zf_eq c_108 rfl (by decide); omega
          · have fc_108 : q_106.toInt ≠ (-1) := zf_ne c_108 rfl (by decide)
            have e0 : slot.toNatClampNeg = slot.toInt.toNat + 0 := (by show (slot : Int32).toInt.toNat = _; omega)
            have hI := zIn_a hn0 (by first | (right; decide) | (left; omega))
            exact W.vret hx hb hr (fun t ht hW => ⟨⟨(q_105, q_106, rt, ru, (upd fi slot.toNatClampNeg 3)), rfl, ⟨(show 0 ≤ q_105.toInt ∧ q_105.toInt ≤ 160 from hbq_105), (show (-1) ≤ q_106.toInt ∧ q_106.toInt ≤ 160 from hbq_106), (show 0 ≤ rt.toInt ∧ rt.toInt ≤ 40 from ⟨hy9, hy10⟩), (show 0 ≤ ru.toInt ∧ ru.toInt ≤ 8 from ⟨hy11, hy12⟩), (show q_105.toInt ≤ rz.toInt from by omega), (show (q_106.toInt = -1 → zIt (upd fi slot.toNatClampNeg 3) slot.toInt.toNat) from by (intro h; exfalso; omega)), (show (∀ j : Nat, j < slot.toInt.toNat → (upd fi slot.toNatClampNeg 3) j = fi j) from by (intro j hj; simp only [upd]; rw [if_neg (by omega)])), (show (q_106.toInt = (zItem fl rz.toInt rp.toInt rt.toInt ru.toInt).1 ∧ (q_106.toInt = -1 → q_105.toInt = (zItem fl rz.toInt rp.toInt rt.toInt ru.toInt).2.1 ∧ rt.toInt = (zItem fl rz.toInt rp.toInt rt.toInt ru.toInt).2.2.1 ∧ ru.toInt = (zItem fl rz.toInt rp.toInt rt.toInt ru.toInt).2.2.2)) from by (have z9 := hsr_1_1; rw [kc3] at z9; have hq : zFst fl rz.toInt rp.toInt zWds 10 = 3 ∧ ¬ ((3 : Int) = 3 ∧ ru.toInt = 8) := (by omega); have hl9 : (q_3 : Int32).toInt = rp.toInt + ((zWds ((3 : Int)).toNat).length : Nat) := (by omega); rw [zItem_w hq.1 (by decide) hq.2 hl9 hI]; dsimp only; exact ⟨by (first | rfl | omega), fun h => ⟨by (first | rfl | omega), by (show _ = (if (3 : Int) = 0 then _ else _); rw [if_neg (by decide)]), by (show _ = (if (3 : Int) = 3 then _ else _); first | (rw [if_pos rfl]; done) | (rw [if_pos rfl]; omega))⟩⟩)), (show (q_106.toInt = -1 → (((upd fi slot.toNatClampNeg 3) slot.toInt.toNat).toInt = 0 → rt.toInt = ((upd fi slot.toNatClampNeg 3) (slot.toInt.toNat + 1)).toInt) ∧ (((upd fi slot.toNatClampNeg 3) slot.toInt.toNat).toInt ≠ 0 → rt.toInt = rt.toInt) ∧ (((upd fi slot.toNatClampNeg 3) slot.toInt.toNat).toInt = 3 → ru.toInt = ru.toInt + 1) ∧ (((upd fi slot.toNatClampNeg 3) slot.toInt.toNat).toInt ≠ 3 → ru.toInt = ru.toInt)) from by (intro h; exfalso; omega)), (show (q_106.toInt = -1 → zSm (zDS (upd fi slot.toNatClampNeg 3) slot.toInt.toNat) (zIm fl rz.toInt rp.toInt rt.toInt)) from by (intro h; exfalso; omega)), trivial⟩, zRet ht hP hD [1, 2, 0] (by decide) rfl⟩, hS.F ht⟩) hS.2.2 dX3_readItem_75
        · have fc_107 : q_106.toInt = (-1) := zf_eq c_107 rfl (by decide)
          refine lv_aload_n hx hb dX3_readItem_42 rfl (lv_at hl 2 rfl) ?_
          refine va_get (D := D) (ci := 3) (v := .ref ri) (C := RX3) (T := TX3) (N := 8) hx hb hts hi_X3_readItem_3 hown hK hP 1 rfl rfl 0 (by decide) (hts (.fieldLink RX3 11 "TheLiningsInIt$Reader" "items" "[I") (List.mem_of_getElem? (i := 1) rfl)) (fun _ h9 => h9) rfl dX3_readItem_43 ?_
          refine lv_iload_n hx hb dX3_readItem_46 rfl (lv_at hl 3 rfl) ?_
          refine lv_iconst (v := 1) hx hb dX3_readItem_47 (by decide) ?_
          refine lv_iadd hx hb dX3_readItem_48 ?_
          refine lv_topi (fun x_109 ex_109 => ?_)
          have qx_109 : x_109.toInt = slot.toInt + 1 := by rw [ex_109]; exact zf_add rfl (by decide) (by omega) (by omega)
          refine lv_iload_n hx hb dX3_readItem_49 rfl (lv_at hl 0 rfl) ?_
          refine lv_iadd hx hb dX3_readItem_50 ?_
          refine lv_topi (fun y_110 ey_110 => ?_)
          obtain rfl : x_109 = y_110 := (ey_110.trans (Int32.add_zero x_109)).symm
          refine lv_aload_n hx hb dX3_readItem_51 rfl (lv_at hl 2 rfl) ?_
          refine lv_iload_n hx hb dX3_readItem_52 rfl (lv_at hl 1 rfl) ?_
          refine lv_iload_n hx hb dX3_readItem_53 rfl (lv_at hl 0 rfl) ?_
          refine zc_S (As := [.int 3, .int 0]) (rest := [.ref rd, .int x_109, .ref ri]) ⟨hx, hb, hml, hown, hts⟩ (c_R_leastOf_3_0 l D cI cJ cZ cP cS po  ) (va_cwS 2 hts gX3_readItem_X3_leastOf rfl rfl rfl dh_X3_leastOf ⟨Nat.le_of_ble_eq_true rfl, Nat.le_of_ble_eq_true rfl⟩) hK hN (hZ.kept hS) rfl hl.1 rfl (Nat.le_of_ble_eq_true rfl) dX3_readItem_54 ⟨Nat.le_of_ble_eq_true rfl, Nat.le_of_ble_eq_true rfl⟩ (fun r_111 hr_111 => ?_)
          obtain rfl := hr_111
          refine lv_aload_n hx hb dX3_readItem_57 rfl (lv_at hl 2 rfl) ?_
          refine lv_iload_n hx hb dX3_readItem_58 rfl (lv_at hl 1 rfl) ?_
          refine lv_iload_n hx hb dX3_readItem_59 rfl (lv_at hl 0 rfl) ?_
          refine zc_V (As := [.int 3, .int 0]) (rest := [.int 0, .ref rd, .int x_109, .ref ri]) ⟨hx, hb, hml, hown, hts⟩ (c_R_mostOf_3_0 l D cI cJ cZ cP cS po rd ri rl (rz) (rc) (q_105) (q_106) (rt) (ru) hy0 hy1 hy2 hy3 hbq_105.1 hbq_105.2 (by omega) hbq_106.1 hbq_106.2 hy9 hy10 hy11 hy12) (cwV 2 hts gX3_readItem_X3_mostOf rfl rfl rfl ⟨rfl, dh_X3_mostOf⟩ ⟨Nat.le_of_ble_eq_true rfl, Nat.le_of_ble_eq_true rfl⟩) hK hN (hZ.kept hS) hP (hP.sub [1] rfl) (va_recv (q := (RX3, TX3, 8)) hK hP (ci := 3) (q0 := 1) rfl rfl) rfl hl.1 rfl (Nat.le_of_ble_eq_true rfl) dX3_readItem_60 ⟨Nat.le_of_ble_eq_true rfl, Nat.le_of_ble_eq_true rfl⟩ (fun r_112 hr_112 => ?_)
          obtain rfl := hr_112
          have kc0 : (0 : Int32).toInt = 0 := by decide
          have kc6 : (6 : Int32).toInt = 6 := by decide
          skip
          refine zw_V (As := [.int 0, .int 6]) (rest := [.int x_109, .ref ri]) (wr := [(ri, .inl (cI, 132, .inl (upd fi slot.toNatClampNeg 3)))]) ⟨hx, hb, hml, hown, hts⟩ (c_F_R_readNumber l D cI cJ cZ cP cS po rd ri rl (rz) (rc) (q_105) (q_106) (rt) (ru) fl (0) (6) hy0 hy1 hy2 hy3 hbq_105.1 hbq_105.2 (by omega) hbq_106.1 hbq_106.2 hy9 hy10 hy11 hy12 H.size) (cwV 2 hts gX3_readItem_X3_readNumber rfl rfl rfl ⟨rfl, dh_X3_readNumber⟩ ⟨Nat.le_of_ble_eq_true rfl, Nat.le_of_ble_eq_true rfl⟩) hK hN (hZ.kept hS) hP hD hS hA [1, 2] [0] rfl rfl (by decide) (by decide) (by decide) (va_recv (q := (RX3, TX3, 8)) hK hP (ci := 3) (q0 := 1) rfl rfl) rfl hl.1 rfl (Nat.le_of_ble_eq_true rfl) dX3_readItem_63 ⟨Nat.le_of_ble_eq_true rfl, Nat.le_of_ble_eq_true rfl⟩ (fun r_113 u_114 H locs hr_113 hP hD hS => ?_)
          obtain ⟨q_115, q_116⟩ := u_114
          try dsimp only at hr_113
          obtain ⟨hbq_115, hbq_116, hsr_113_0, hsr_113_1, hsr_113_2, hsr_113_3, hr_113⟩ := hr_113
          have h9R := zRe (ws' := [(ri, .inl (cI, 132, .inl (upd fi slot.toNatClampNeg 3))), (rd, .inr (3, [.ref ri, .ref rl, .int rz, .int rc, .int q_115, .int q_116, .int rt, .int ru])), (rl, .inl (cI, 160, .inl fl))]) hP hD rfl
          clear hP hD
          obtain ⟨hP, hD⟩ := h9R
          obtain ⟨g_117, g_118⟩ := hr_113
          refine va_iast hx hb hK hP hD hS 0 0 rfl rfl (zf_in (by omega) (by omega)) dX3_readItem_66 (fun H locs hP hD hS => ?_)
          have h9R := zRe (ws' := [(ri, .inl (cI, 132, .inl (upd (upd fi slot.toNatClampNeg 3) x_109.toNatClampNeg r_113))), (rd, .inr (3, [.ref ri, .ref rl, .int rz, .int rc, .int q_115, .int q_116, .int rt, .int ru])), (rl, .inl (cI, 160, .inl fl))]) hP hD rfl
          clear hP hD
          obtain ⟨hP, hD⟩ := h9R
          have hn0 : zN1 fl rz.toInt (q_3 : Int32).toInt (zLo 3 0) (zHi 3 0 rt.toInt) = ((q_116 : Int32).toInt, (q_115 : Int32).toInt, r_113.toInt) := zN1_yes (p1 := (q_105 : Int32).toInt) (lo2 := ((0 : Int32)).toInt) (hi2 := ((6 : Int32)).toInt) (by omega) (by omega) hsr_113_1 hsr_113_2 (by first | decide | (show (0 : Int) = _; omega)) (by first | decide | (show (6 : Int) = _; decide) | (show rt.toInt - 1 = _; omega) | (show rt.toInt = _; omega)) (by omega)
          refine lv_aload_n hx hb dX3_readItem_67 rfl (lv_at hl 2 rfl) ?_
          refine va_get (D := D) (ci := 3) (v := .int q_116) (C := RX3) (T := TX3) (N := 8) hx hb hts hi_X3_readItem_3 hown hK hP 1 rfl rfl 5 (by decide) (hts (.fieldLink RX3 28 "TheLiningsInIt$Reader" "fault" "I") (List.mem_of_getElem? (i := 2) rfl)) (fun _ h9 => h9) rfl dX3_readItem_68 ?_
          refine lv_iconst (v := (-1)) hx hb dX3_readItem_71 (by decide) ?_
          refine lv_icmp_eq (tgt := 76) hx hb dX3_readItem_72 (by decide) (fun c_119 => ?_) (fun c_119 => ?_)
          · have fc_119 : q_116.toInt = (-1) := zf_eq c_119 rfl (by decide)
            refine lv_iinc (v := 1) (lv' := [(3, .int 1), (2, .int 3), (0, .ref rd), (1, .int slot)]) hx hb dX3_readItem_76 hl (k := 0) rfl (by decide) (by decide) rfl (fun ls hl => ?_)
            refine lv_goto (tgt := 20) hx hb dX3_readItem_79 (by decide) ?_
            refine lv_iload_n hx hb dX3_readItem_20 rfl (lv_at hl 0 rfl) ?_
            refine lv_iload_n hx hb dX3_readItem_21 rfl (lv_at hl 1 rfl) ?_
            refine zc_S (As := [.int 3]) (rest := [.int 1]) ⟨hx, hb, hml, hown, hts⟩ (c_R_numbersOf_3 l D cI cJ cZ cP cS po  ) (va_cwS 1 hts gX3_readItem_X3_numbersOf rfl rfl rfl dh_X3_numbersOf ⟨Nat.le_of_ble_eq_true rfl, Nat.le_of_ble_eq_true rfl⟩) hK hN (hZ.kept hS) rfl hl.1 rfl (Nat.le_of_ble_eq_true rfl) dX3_readItem_22 ⟨Nat.le_of_ble_eq_true rfl, Nat.le_of_ble_eq_true rfl⟩ (fun r_120 hr_120 => ?_)
            obtain rfl := hr_120
            refine lv_icmp_ge (tgt := 82) hx hb dX3_readItem_25 (by decide) (fun c_121 => ?_) (fun c_121 => ?_)
            · exact absurd c_121 (by decide)
            · refine lv_aload_n hx hb dX3_readItem_28 rfl (lv_at hl 2 rfl) ?_
              refine lv_bipush (v := 32) hx hb dX3_readItem_29 (by decide) ?_
              skip
              refine zw_Vv (As := [.int 32]) (rest := []) (wr := [(ri, .inl (cI, 132, .inl (upd (upd fi slot.toNatClampNeg 3) x_109.toNatClampNeg r_113)))]) ⟨hx, hb, hml, hown, hts⟩ (c_F_R_expect l D cI cJ cZ cP cS po rd ri rl (rz) (rc) (q_115) (q_116) (rt) (ru) fl (32) hy0 hy1 hy2 hy3 hbq_115.1 hbq_115.2 (by omega) hbq_116.1 hbq_116.2 hy9 hy10 hy11 hy12 H.size) (cwV 1 hts gX3_readItem_X3_expect rfl rfl rfl ⟨rfl, dh_X3_expect⟩ ⟨Nat.le_of_ble_eq_true rfl, Nat.le_of_ble_eq_true rfl⟩) hK hN (hZ.kept hS) hP hD hS hA [1, 2] [0] rfl rfl (by decide) (by decide) (by decide) (va_recv (q := (RX3, TX3, 8)) hK hP (ci := 3) (q0 := 1) rfl rfl) rfl hl.1 rfl (Nat.le_of_ble_eq_true rfl) dX3_readItem_31 ⟨Nat.le_of_ble_eq_true rfl, Nat.le_of_ble_eq_true rfl⟩ (fun u_123 H locs hr_122 hP hD hS => ?_)
              obtain ⟨q_124, q_125⟩ := u_123
              try dsimp only at hr_122
              obtain ⟨hbq_124, hbq_125, hsr_122_0, hsr_122_1, hr_122⟩ := hr_122
              have h9R := zRe (ws' := [(ri, .inl (cI, 132, .inl (upd (upd fi slot.toNatClampNeg 3) x_109.toNatClampNeg r_113))), (rd, .inr (3, [.ref ri, .ref rl, .int rz, .int rc, .int q_124, .int q_125, .int rt, .int ru])), (rl, .inl (cI, 160, .inl fl))]) hP hD rfl
              clear hP hD
              obtain ⟨hP, hD⟩ := h9R
              refine lv_aload_n hx hb dX3_readItem_34 rfl (lv_at hl 2 rfl) ?_
              refine va_get (D := D) (ci := 3) (v := .int q_125) (C := RX3) (T := TX3) (N := 8) hx hb hts hi_X3_readItem_3 hown hK hP 1 rfl rfl 5 (by decide) (hts (.fieldLink RX3 28 "TheLiningsInIt$Reader" "fault" "I") (List.mem_of_getElem? (i := 2) rfl)) (fun _ h9 => h9) rfl dX3_readItem_35 ?_
              refine lv_iconst (v := (-1)) hx hb dX3_readItem_38 (by decide) ?_
              refine lv_icmp_ne (tgt := 67) hx hb dX3_readItem_39 (by decide) (fun c_126 => ?_) (fun c_126 => ?_)
              · have fc_126 : q_125.toInt ≠ (-1) := zf_ne c_126 rfl (by decide)
                have hn1 : zN1 fl rz.toInt (q_115 : Int32).toInt (zLo 3 1) (zHi 3 1 rt.toInt) = ((q_115 : Int32).toInt, (q_115 : Int32).toInt, 0) := zN1_no (by omega)
                refine lv_aload_n hx hb dX3_readItem_67 rfl (lv_at hl 2 rfl) ?_
                refine va_get (D := D) (ci := 3) (v := .int q_125) (C := RX3) (T := TX3) (N := 8) hx hb hts hi_X3_readItem_3 hown hK hP 1 rfl rfl 5 (by decide) (hts (.fieldLink RX3 28 "TheLiningsInIt$Reader" "fault" "I") (List.mem_of_getElem? (i := 2) rfl)) (fun _ h9 => h9) rfl dX3_readItem_68 ?_
                refine lv_iconst (v := (-1)) hx hb dX3_readItem_71 (by decide) ?_
                refine lv_icmp_eq (tgt := 76) hx hb dX3_readItem_72 (by decide) (fun c_127 => ?_) (fun c_127 => ?_)
                · exfalso; have fc_127 : q_125.toInt = (-1) := zf_eq c_127 rfl (by decide); omega
                · have fc_127 : q_125.toInt ≠ (-1) := zf_ne c_127 rfl (by decide)
                  have e0 : slot.toNatClampNeg = slot.toInt.toNat + 0 := (by show (slot : Int32).toInt.toNat = _; omega)
                  have e1 : x_109.toNatClampNeg = slot.toInt.toNat + 1 := (by show (x_109 : Int32).toInt.toNat = _; omega)
                  have hI := zIn_b (by have z := hn0; rw [show (q_116 : Int32).toInt = -1 from by omega] at z; exact z) (by decide) hn1 (by first | (right; decide) | (left; omega))
                  exact W.vret hx hb hr (fun t ht hW => ⟨⟨(q_124, q_125, rt, ru, (upd (upd fi slot.toNatClampNeg 3) x_109.toNatClampNeg r_113)), rfl, ⟨(show 0 ≤ q_124.toInt ∧ q_124.toInt ≤ 160 from hbq_124), (show (-1) ≤ q_125.toInt ∧ q_125.toInt ≤ 160 from hbq_125), (show 0 ≤ rt.toInt ∧ rt.toInt ≤ 40 from ⟨hy9, hy10⟩), (show 0 ≤ ru.toInt ∧ ru.toInt ≤ 8 from ⟨hy11, hy12⟩), (show q_124.toInt ≤ rz.toInt from by omega), (show (q_125.toInt = -1 → zIt (upd (upd fi slot.toNatClampNeg 3) x_109.toNatClampNeg r_113) slot.toInt.toNat) from by (intro h; exfalso; omega)), (show (∀ j : Nat, j < slot.toInt.toNat → (upd (upd fi slot.toNatClampNeg 3) x_109.toNatClampNeg r_113) j = fi j) from by (intro j hj; simp only [upd]; rw [if_neg (by omega), if_neg (by omega)])), (show (q_125.toInt = (zItem fl rz.toInt rp.toInt rt.toInt ru.toInt).1 ∧ (q_125.toInt = -1 → q_124.toInt = (zItem fl rz.toInt rp.toInt rt.toInt ru.toInt).2.1 ∧ rt.toInt = (zItem fl rz.toInt rp.toInt rt.toInt ru.toInt).2.2.1 ∧ ru.toInt = (zItem fl rz.toInt rp.toInt rt.toInt ru.toInt).2.2.2)) from by (have z9 := hsr_1_1; rw [kc3] at z9; have hq : zFst fl rz.toInt rp.toInt zWds 10 = 3 ∧ ¬ ((3 : Int) = 3 ∧ ru.toInt = 8) := (by omega); have hl9 : (q_3 : Int32).toInt = rp.toInt + ((zWds ((3 : Int)).toNat).length : Nat) := (by omega); rw [zItem_w hq.1 (by decide) hq.2 hl9 hI]; dsimp only; exact ⟨by (first | rfl | omega), fun h => ⟨by (first | rfl | omega), by (show _ = (if (3 : Int) = 0 then _ else _); rw [if_neg (by decide)]), by (show _ = (if (3 : Int) = 3 then _ else _); first | (rw [if_pos rfl]; done) | (rw [if_pos rfl]; omega))⟩⟩)), (show (q_125.toInt = -1 → (((upd (upd fi slot.toNatClampNeg 3) x_109.toNatClampNeg r_113) slot.toInt.toNat).toInt = 0 → rt.toInt = ((upd (upd fi slot.toNatClampNeg 3) x_109.toNatClampNeg r_113) (slot.toInt.toNat + 1)).toInt) ∧ (((upd (upd fi slot.toNatClampNeg 3) x_109.toNatClampNeg r_113) slot.toInt.toNat).toInt ≠ 0 → rt.toInt = rt.toInt) ∧ (((upd (upd fi slot.toNatClampNeg 3) x_109.toNatClampNeg r_113) slot.toInt.toNat).toInt = 3 → ru.toInt = ru.toInt + 1) ∧ (((upd (upd fi slot.toNatClampNeg 3) x_109.toNatClampNeg r_113) slot.toInt.toNat).toInt ≠ 3 → ru.toInt = ru.toInt)) from by (intro h; exfalso; omega)), (show (q_125.toInt = -1 → zSm (zDS (upd (upd fi slot.toNatClampNeg 3) x_109.toNatClampNeg r_113) slot.toInt.toNat) (zIm fl rz.toInt rp.toInt rt.toInt)) from by (intro h; exfalso; omega)), trivial⟩, zRet ht hP hD [1, 2, 0] (by decide) rfl⟩, hS.F ht⟩) hS.2.2 dX3_readItem_75
              · have fc_126 : q_125.toInt = (-1) := zf_eq c_126 rfl (by decide)
                refine lv_aload_n hx hb dX3_readItem_42 rfl (lv_at hl 2 rfl) ?_
                refine va_get (D := D) (ci := 3) (v := .ref ri) (C := RX3) (T := TX3) (N := 8) hx hb hts hi_X3_readItem_3 hown hK hP 1 rfl rfl 0 (by decide) (hts (.fieldLink RX3 11 "TheLiningsInIt$Reader" "items" "[I") (List.mem_of_getElem? (i := 1) rfl)) (fun _ h9 => h9) rfl dX3_readItem_43 ?_
                refine lv_iload_n hx hb dX3_readItem_46 rfl (lv_at hl 3 rfl) ?_
                refine lv_iconst (v := 1) hx hb dX3_readItem_47 (by decide) ?_
                refine lv_iadd hx hb dX3_readItem_48 ?_
                refine lv_topi (fun y_128 ey_128 => ?_)
                obtain rfl : x_109 = y_128 := ex_109.trans ey_128.symm
                refine lv_iload_n hx hb dX3_readItem_49 rfl (lv_at hl 0 rfl) ?_
                refine lv_iadd hx hb dX3_readItem_50 ?_
                refine lv_topi (fun x_129 ex_129 => ?_)
                have qx_129 : x_129.toInt = x_109.toInt + 1 := by rw [ex_129]; exact zf_add rfl (by decide) (by omega) (by omega)
                refine lv_aload_n hx hb dX3_readItem_51 rfl (lv_at hl 2 rfl) ?_
                refine lv_iload_n hx hb dX3_readItem_52 rfl (lv_at hl 1 rfl) ?_
                refine lv_iload_n hx hb dX3_readItem_53 rfl (lv_at hl 0 rfl) ?_
                refine zc_S (As := [.int 3, .int 1]) (rest := [.ref rd, .int x_129, .ref ri]) ⟨hx, hb, hml, hown, hts⟩ (c_R_leastOf_3_1 l D cI cJ cZ cP cS po  ) (va_cwS 2 hts gX3_readItem_X3_leastOf rfl rfl rfl dh_X3_leastOf ⟨Nat.le_of_ble_eq_true rfl, Nat.le_of_ble_eq_true rfl⟩) hK hN (hZ.kept hS) rfl hl.1 rfl (Nat.le_of_ble_eq_true rfl) dX3_readItem_54 ⟨Nat.le_of_ble_eq_true rfl, Nat.le_of_ble_eq_true rfl⟩ (fun r_130 hr_130 => ?_)
                obtain rfl := hr_130
                refine lv_aload_n hx hb dX3_readItem_57 rfl (lv_at hl 2 rfl) ?_
                refine lv_iload_n hx hb dX3_readItem_58 rfl (lv_at hl 1 rfl) ?_
                refine lv_iload_n hx hb dX3_readItem_59 rfl (lv_at hl 0 rfl) ?_
                refine zc_V (As := [.int 3, .int 1]) (rest := [.int 0, .ref rd, .int x_129, .ref ri]) ⟨hx, hb, hml, hown, hts⟩ (c_R_mostOf_3_1 l D cI cJ cZ cP cS po rd ri rl (rz) (rc) (q_124) (q_125) (rt) (ru) hy0 hy1 hy2 hy3 hbq_124.1 hbq_124.2 (by omega) hbq_125.1 hbq_125.2 hy9 hy10 hy11 hy12) (cwV 2 hts gX3_readItem_X3_mostOf rfl rfl rfl ⟨rfl, dh_X3_mostOf⟩ ⟨Nat.le_of_ble_eq_true rfl, Nat.le_of_ble_eq_true rfl⟩) hK hN (hZ.kept hS) hP (hP.sub [1] rfl) (va_recv (q := (RX3, TX3, 8)) hK hP (ci := 3) (q0 := 1) rfl rfl) rfl hl.1 rfl (Nat.le_of_ble_eq_true rfl) dX3_readItem_60 ⟨Nat.le_of_ble_eq_true rfl, Nat.le_of_ble_eq_true rfl⟩ (fun r_131 hr_131 => ?_)
                obtain rfl := hr_131
                have kc9 : (9 : Int32).toInt = 9 := by decide
                skip
                refine zw_V (As := [.int 0, .int 9]) (rest := [.int x_129, .ref ri]) (wr := [(ri, .inl (cI, 132, .inl (upd (upd fi slot.toNatClampNeg 3) x_109.toNatClampNeg r_113)))]) ⟨hx, hb, hml, hown, hts⟩ (c_F_R_readNumber l D cI cJ cZ cP cS po rd ri rl (rz) (rc) (q_124) (q_125) (rt) (ru) fl (0) (9) hy0 hy1 hy2 hy3 hbq_124.1 hbq_124.2 (by omega) hbq_125.1 hbq_125.2 hy9 hy10 hy11 hy12 H.size) (cwV 2 hts gX3_readItem_X3_readNumber rfl rfl rfl ⟨rfl, dh_X3_readNumber⟩ ⟨Nat.le_of_ble_eq_true rfl, Nat.le_of_ble_eq_true rfl⟩) hK hN (hZ.kept hS) hP hD hS hA [1, 2] [0] rfl rfl (by decide) (by decide) (by decide) (va_recv (q := (RX3, TX3, 8)) hK hP (ci := 3) (q0 := 1) rfl rfl) rfl hl.1 rfl (Nat.le_of_ble_eq_true rfl) dX3_readItem_63 ⟨Nat.le_of_ble_eq_true rfl, Nat.le_of_ble_eq_true rfl⟩ (fun r_132 u_133 H locs hr_132 hP hD hS => ?_)
                obtain ⟨q_134, q_135⟩ := u_133
                try dsimp only at hr_132
                obtain ⟨hbq_134, hbq_135, hsr_132_0, hsr_132_1, hsr_132_2, hsr_132_3, hr_132⟩ := hr_132
                have h9R := zRe (ws' := [(ri, .inl (cI, 132, .inl (upd (upd fi slot.toNatClampNeg 3) x_109.toNatClampNeg r_113))), (rd, .inr (3, [.ref ri, .ref rl, .int rz, .int rc, .int q_134, .int q_135, .int rt, .int ru])), (rl, .inl (cI, 160, .inl fl))]) hP hD rfl
                clear hP hD
                obtain ⟨hP, hD⟩ := h9R
                obtain ⟨g_136, g_137⟩ := hr_132
                refine va_iast hx hb hK hP hD hS 0 0 rfl rfl (zf_in (by omega) (by omega)) dX3_readItem_66 (fun H locs hP hD hS => ?_)
                have h9R := zRe (ws' := [(ri, .inl (cI, 132, .inl (upd (upd (upd fi slot.toNatClampNeg 3) x_109.toNatClampNeg r_113) x_129.toNatClampNeg r_132))), (rd, .inr (3, [.ref ri, .ref rl, .int rz, .int rc, .int q_134, .int q_135, .int rt, .int ru])), (rl, .inl (cI, 160, .inl fl))]) hP hD rfl
                clear hP hD
                obtain ⟨hP, hD⟩ := h9R
                have hn1 : zN1 fl rz.toInt (q_115 : Int32).toInt (zLo 3 1) (zHi 3 1 rt.toInt) = ((q_135 : Int32).toInt, (q_134 : Int32).toInt, r_132.toInt) := zN1_yes (p1 := (q_124 : Int32).toInt) (lo2 := ((0 : Int32)).toInt) (hi2 := ((9 : Int32)).toInt) (by omega) (by omega) hsr_132_1 hsr_132_2 (by first | decide | (show (0 : Int) = _; omega)) (by first | decide | (show (9 : Int) = _; decide) | (show rt.toInt - 1 = _; omega) | (show rt.toInt = _; omega)) (by omega)
                refine lv_aload_n hx hb dX3_readItem_67 rfl (lv_at hl 2 rfl) ?_
                refine va_get (D := D) (ci := 3) (v := .int q_135) (C := RX3) (T := TX3) (N := 8) hx hb hts hi_X3_readItem_3 hown hK hP 1 rfl rfl 5 (by decide) (hts (.fieldLink RX3 28 "TheLiningsInIt$Reader" "fault" "I") (List.mem_of_getElem? (i := 2) rfl)) (fun _ h9 => h9) rfl dX3_readItem_68 ?_
                refine lv_iconst (v := (-1)) hx hb dX3_readItem_71 (by decide) ?_
                refine lv_icmp_eq (tgt := 76) hx hb dX3_readItem_72 (by decide) (fun c_138 => ?_) (fun c_138 => ?_)
                · have fc_138 : q_135.toInt = (-1) := zf_eq c_138 rfl (by decide)
                  refine lv_iinc (v := 2) (lv' := [(3, .int 2), (2, .int 3), (0, .ref rd), (1, .int slot)]) hx hb dX3_readItem_76 hl (k := 0) rfl (by decide) (by decide) rfl (fun ls hl => ?_)
                  refine lv_goto (tgt := 20) hx hb dX3_readItem_79 (by decide) ?_
                  refine lv_iload_n hx hb dX3_readItem_20 rfl (lv_at hl 0 rfl) ?_
                  refine lv_iload_n hx hb dX3_readItem_21 rfl (lv_at hl 1 rfl) ?_
                  refine zc_S (As := [.int 3]) (rest := [.int 2]) ⟨hx, hb, hml, hown, hts⟩ (c_R_numbersOf_3 l D cI cJ cZ cP cS po  ) (va_cwS 1 hts gX3_readItem_X3_numbersOf rfl rfl rfl dh_X3_numbersOf ⟨Nat.le_of_ble_eq_true rfl, Nat.le_of_ble_eq_true rfl⟩) hK hN (hZ.kept hS) rfl hl.1 rfl (Nat.le_of_ble_eq_true rfl) dX3_readItem_22 ⟨Nat.le_of_ble_eq_true rfl, Nat.le_of_ble_eq_true rfl⟩ (fun r_139 hr_139 => ?_)
                  obtain rfl := hr_139
                  refine lv_icmp_ge (tgt := 82) hx hb dX3_readItem_25 (by decide) (fun c_140 => ?_) (fun c_140 => ?_)
                  · exact absurd c_140 (by decide)
                  · refine lv_aload_n hx hb dX3_readItem_28 rfl (lv_at hl 2 rfl) ?_
                    refine lv_bipush (v := 32) hx hb dX3_readItem_29 (by decide) ?_
                    skip
                    refine zw_Vv (As := [.int 32]) (rest := []) (wr := [(ri, .inl (cI, 132, .inl (upd (upd (upd fi slot.toNatClampNeg 3) x_109.toNatClampNeg r_113) x_129.toNatClampNeg r_132)))]) ⟨hx, hb, hml, hown, hts⟩ (c_F_R_expect l D cI cJ cZ cP cS po rd ri rl (rz) (rc) (q_134) (q_135) (rt) (ru) fl (32) hy0 hy1 hy2 hy3 hbq_134.1 hbq_134.2 (by omega) hbq_135.1 hbq_135.2 hy9 hy10 hy11 hy12 H.size) (cwV 1 hts gX3_readItem_X3_expect rfl rfl rfl ⟨rfl, dh_X3_expect⟩ ⟨Nat.le_of_ble_eq_true rfl, Nat.le_of_ble_eq_true rfl⟩) hK hN (hZ.kept hS) hP hD hS hA [1, 2] [0] rfl rfl (by decide) (by decide) (by decide) (va_recv (q := (RX3, TX3, 8)) hK hP (ci := 3) (q0 := 1) rfl rfl) rfl hl.1 rfl (Nat.le_of_ble_eq_true rfl) dX3_readItem_31 ⟨Nat.le_of_ble_eq_true rfl, Nat.le_of_ble_eq_true rfl⟩ (fun u_142 H locs hr_141 hP hD hS => ?_)
                    obtain ⟨q_143, q_144⟩ := u_142
                    try dsimp only at hr_141
                    obtain ⟨hbq_143, hbq_144, hsr_141_0, hsr_141_1, hr_141⟩ := hr_141
                    have h9R := zRe (ws' := [(ri, .inl (cI, 132, .inl (upd (upd (upd fi slot.toNatClampNeg 3) x_109.toNatClampNeg r_113) x_129.toNatClampNeg r_132))), (rd, .inr (3, [.ref ri, .ref rl, .int rz, .int rc, .int q_143, .int q_144, .int rt, .int ru])), (rl, .inl (cI, 160, .inl fl))]) hP hD rfl
                    clear hP hD
                    obtain ⟨hP, hD⟩ := h9R
                    refine lv_aload_n hx hb dX3_readItem_34 rfl (lv_at hl 2 rfl) ?_
                    refine va_get (D := D) (ci := 3) (v := .int q_144) (C := RX3) (T := TX3) (N := 8) hx hb hts hi_X3_readItem_3 hown hK hP 1 rfl rfl 5 (by decide) (hts (.fieldLink RX3 28 "TheLiningsInIt$Reader" "fault" "I") (List.mem_of_getElem? (i := 2) rfl)) (fun _ h9 => h9) rfl dX3_readItem_35 ?_
                    refine lv_iconst (v := (-1)) hx hb dX3_readItem_38 (by decide) ?_
                    refine lv_icmp_ne (tgt := 67) hx hb dX3_readItem_39 (by decide) (fun c_145 => ?_) (fun c_145 => ?_)
                    · have fc_145 : q_144.toInt ≠ (-1) := zf_ne c_145 rfl (by decide)
                      have hn2 : zN1 fl rz.toInt (q_134 : Int32).toInt (zLo 3 2) (zHi 3 2 rt.toInt) = ((q_134 : Int32).toInt, (q_134 : Int32).toInt, 0) := zN1_no (by omega)
                      refine lv_aload_n hx hb dX3_readItem_67 rfl (lv_at hl 2 rfl) ?_
                      refine va_get (D := D) (ci := 3) (v := .int q_144) (C := RX3) (T := TX3) (N := 8) hx hb hts hi_X3_readItem_3 hown hK hP 1 rfl rfl 5 (by decide) (hts (.fieldLink RX3 28 "TheLiningsInIt$Reader" "fault" "I") (List.mem_of_getElem? (i := 2) rfl)) (fun _ h9 => h9) rfl dX3_readItem_68 ?_
                      refine lv_iconst (v := (-1)) hx hb dX3_readItem_71 (by decide) ?_
                      refine lv_icmp_eq (tgt := 76) hx hb dX3_readItem_72 (by decide) (fun c_146 => ?_) (fun c_146 => ?_)
                      · exfalso; have fc_146 : q_144.toInt = (-1) := zf_eq c_146 rfl (by decide); omega
                      · have fc_146 : q_144.toInt ≠ (-1) := zf_ne c_146 rfl (by decide)
                        have e0 : slot.toNatClampNeg = slot.toInt.toNat + 0 := (by show (slot : Int32).toInt.toNat = _; omega)
                        have e1 : x_109.toNatClampNeg = slot.toInt.toNat + 1 := (by show (x_109 : Int32).toInt.toNat = _; omega)
                        have e2 : x_129.toNatClampNeg = slot.toInt.toNat + 2 := (by show (x_129 : Int32).toInt.toNat = _; omega)
                        have hI := zIn_c (by have z := hn0; rw [show (q_116 : Int32).toInt = -1 from by omega] at z; exact z) (by decide) (by have z := hn1; rw [show (q_135 : Int32).toInt = -1 from by omega] at z; exact z) (by decide) hn2
                        exact W.vret hx hb hr (fun t ht hW => ⟨⟨(q_143, q_144, rt, ru, (upd (upd (upd fi slot.toNatClampNeg 3) x_109.toNatClampNeg r_113) x_129.toNatClampNeg r_132)), rfl, ⟨(show 0 ≤ q_143.toInt ∧ q_143.toInt ≤ 160 from hbq_143), (show (-1) ≤ q_144.toInt ∧ q_144.toInt ≤ 160 from hbq_144), (show 0 ≤ rt.toInt ∧ rt.toInt ≤ 40 from ⟨hy9, hy10⟩), (show 0 ≤ ru.toInt ∧ ru.toInt ≤ 8 from ⟨hy11, hy12⟩), (show q_143.toInt ≤ rz.toInt from by omega), (show (q_144.toInt = -1 → zIt (upd (upd (upd fi slot.toNatClampNeg 3) x_109.toNatClampNeg r_113) x_129.toNatClampNeg r_132) slot.toInt.toNat) from by (intro h; exfalso; omega)), (show (∀ j : Nat, j < slot.toInt.toNat → (upd (upd (upd fi slot.toNatClampNeg 3) x_109.toNatClampNeg r_113) x_129.toNatClampNeg r_132) j = fi j) from by (intro j hj; simp only [upd]; rw [if_neg (by omega), if_neg (by omega), if_neg (by omega)])), (show (q_144.toInt = (zItem fl rz.toInt rp.toInt rt.toInt ru.toInt).1 ∧ (q_144.toInt = -1 → q_143.toInt = (zItem fl rz.toInt rp.toInt rt.toInt ru.toInt).2.1 ∧ rt.toInt = (zItem fl rz.toInt rp.toInt rt.toInt ru.toInt).2.2.1 ∧ ru.toInt = (zItem fl rz.toInt rp.toInt rt.toInt ru.toInt).2.2.2)) from by (have z9 := hsr_1_1; rw [kc3] at z9; have hq : zFst fl rz.toInt rp.toInt zWds 10 = 3 ∧ ¬ ((3 : Int) = 3 ∧ ru.toInt = 8) := (by omega); have hl9 : (q_3 : Int32).toInt = rp.toInt + ((zWds ((3 : Int)).toNat).length : Nat) := (by omega); rw [zItem_w hq.1 (by decide) hq.2 hl9 hI]; dsimp only; exact ⟨by (first | rfl | omega), fun h => ⟨by (first | rfl | omega), by (show _ = (if (3 : Int) = 0 then _ else _); rw [if_neg (by decide)]), by (show _ = (if (3 : Int) = 3 then _ else _); first | (rw [if_pos rfl]; done) | (rw [if_pos rfl]; omega))⟩⟩)), (show (q_144.toInt = -1 → (((upd (upd (upd fi slot.toNatClampNeg 3) x_109.toNatClampNeg r_113) x_129.toNatClampNeg r_132) slot.toInt.toNat).toInt = 0 → rt.toInt = ((upd (upd (upd fi slot.toNatClampNeg 3) x_109.toNatClampNeg r_113) x_129.toNatClampNeg r_132) (slot.toInt.toNat + 1)).toInt) ∧ (((upd (upd (upd fi slot.toNatClampNeg 3) x_109.toNatClampNeg r_113) x_129.toNatClampNeg r_132) slot.toInt.toNat).toInt ≠ 0 → rt.toInt = rt.toInt) ∧ (((upd (upd (upd fi slot.toNatClampNeg 3) x_109.toNatClampNeg r_113) x_129.toNatClampNeg r_132) slot.toInt.toNat).toInt = 3 → ru.toInt = ru.toInt + 1) ∧ (((upd (upd (upd fi slot.toNatClampNeg 3) x_109.toNatClampNeg r_113) x_129.toNatClampNeg r_132) slot.toInt.toNat).toInt ≠ 3 → ru.toInt = ru.toInt)) from by (intro h; exfalso; omega)), (show (q_144.toInt = -1 → zSm (zDS (upd (upd (upd fi slot.toNatClampNeg 3) x_109.toNatClampNeg r_113) x_129.toNatClampNeg r_132) slot.toInt.toNat) (zIm fl rz.toInt rp.toInt rt.toInt)) from by (intro h; exfalso; omega)), trivial⟩, zRet ht hP hD [1, 2, 0] (by decide) rfl⟩, hS.F ht⟩) hS.2.2 dX3_readItem_75
                    · have fc_145 : q_144.toInt = (-1) := zf_eq c_145 rfl (by decide)
                      refine lv_aload_n hx hb dX3_readItem_42 rfl (lv_at hl 2 rfl) ?_
                      refine va_get (D := D) (ci := 3) (v := .ref ri) (C := RX3) (T := TX3) (N := 8) hx hb hts hi_X3_readItem_3 hown hK hP 1 rfl rfl 0 (by decide) (hts (.fieldLink RX3 11 "TheLiningsInIt$Reader" "items" "[I") (List.mem_of_getElem? (i := 1) rfl)) (fun _ h9 => h9) rfl dX3_readItem_43 ?_
                      refine lv_iload_n hx hb dX3_readItem_46 rfl (lv_at hl 3 rfl) ?_
                      refine lv_iconst (v := 1) hx hb dX3_readItem_47 (by decide) ?_
                      refine lv_iadd hx hb dX3_readItem_48 ?_
                      refine lv_topi (fun y_147 ey_147 => ?_)
                      obtain rfl : x_109 = y_147 := ex_109.trans ey_147.symm
                      refine lv_iload_n hx hb dX3_readItem_49 rfl (lv_at hl 0 rfl) ?_
                      refine lv_iadd hx hb dX3_readItem_50 ?_
                      refine lv_topi (fun x_148 ex_148 => ?_)
                      have qx_148 : x_148.toInt = x_109.toInt + 2 := by rw [ex_148]; exact zf_add rfl (by decide) (by omega) (by omega)
                      refine lv_aload_n hx hb dX3_readItem_51 rfl (lv_at hl 2 rfl) ?_
                      refine lv_iload_n hx hb dX3_readItem_52 rfl (lv_at hl 1 rfl) ?_
                      refine lv_iload_n hx hb dX3_readItem_53 rfl (lv_at hl 0 rfl) ?_
                      refine zc_S (As := [.int 3, .int 2]) (rest := [.ref rd, .int x_148, .ref ri]) ⟨hx, hb, hml, hown, hts⟩ (c_R_leastOf_3_2 l D cI cJ cZ cP cS po  ) (va_cwS 2 hts gX3_readItem_X3_leastOf rfl rfl rfl dh_X3_leastOf ⟨Nat.le_of_ble_eq_true rfl, Nat.le_of_ble_eq_true rfl⟩) hK hN (hZ.kept hS) rfl hl.1 rfl (Nat.le_of_ble_eq_true rfl) dX3_readItem_54 ⟨Nat.le_of_ble_eq_true rfl, Nat.le_of_ble_eq_true rfl⟩ (fun r_149 hr_149 => ?_)
                      obtain rfl := hr_149
                      refine lv_aload_n hx hb dX3_readItem_57 rfl (lv_at hl 2 rfl) ?_
                      refine lv_iload_n hx hb dX3_readItem_58 rfl (lv_at hl 1 rfl) ?_
                      refine lv_iload_n hx hb dX3_readItem_59 rfl (lv_at hl 0 rfl) ?_
                      refine zc_V (As := [.int 3, .int 2]) (rest := [.int 1, .ref rd, .int x_148, .ref ri]) ⟨hx, hb, hml, hown, hts⟩ (c_R_mostOf_3_2 l D cI cJ cZ cP cS po rd ri rl (rz) (rc) (q_143) (q_144) (rt) (ru) hy0 hy1 hy2 hy3 hbq_143.1 hbq_143.2 (by omega) hbq_144.1 hbq_144.2 hy9 hy10 hy11 hy12) (cwV 2 hts gX3_readItem_X3_mostOf rfl rfl rfl ⟨rfl, dh_X3_mostOf⟩ ⟨Nat.le_of_ble_eq_true rfl, Nat.le_of_ble_eq_true rfl⟩) hK hN (hZ.kept hS) hP (hP.sub [1] rfl) (va_recv (q := (RX3, TX3, 8)) hK hP (ci := 3) (q0 := 1) rfl rfl) rfl hl.1 rfl (Nat.le_of_ble_eq_true rfl) dX3_readItem_60 ⟨Nat.le_of_ble_eq_true rfl, Nat.le_of_ble_eq_true rfl⟩ (fun r_150 hr_150 => ?_)
                      obtain rfl := hr_150
                      have kc1 : (1 : Int32).toInt = 1 := by decide
                      have kc60 : (60 : Int32).toInt = 60 := by decide
                      skip
                      refine zw_V (As := [.int 1, .int 60]) (rest := [.int x_148, .ref ri]) (wr := [(ri, .inl (cI, 132, .inl (upd (upd (upd fi slot.toNatClampNeg 3) x_109.toNatClampNeg r_113) x_129.toNatClampNeg r_132)))]) ⟨hx, hb, hml, hown, hts⟩ (c_F_R_readNumber l D cI cJ cZ cP cS po rd ri rl (rz) (rc) (q_143) (q_144) (rt) (ru) fl (1) (60) hy0 hy1 hy2 hy3 hbq_143.1 hbq_143.2 (by omega) hbq_144.1 hbq_144.2 hy9 hy10 hy11 hy12 H.size) (cwV 2 hts gX3_readItem_X3_readNumber rfl rfl rfl ⟨rfl, dh_X3_readNumber⟩ ⟨Nat.le_of_ble_eq_true rfl, Nat.le_of_ble_eq_true rfl⟩) hK hN (hZ.kept hS) hP hD hS hA [1, 2] [0] rfl rfl (by decide) (by decide) (by decide) (va_recv (q := (RX3, TX3, 8)) hK hP (ci := 3) (q0 := 1) rfl rfl) rfl hl.1 rfl (Nat.le_of_ble_eq_true rfl) dX3_readItem_63 ⟨Nat.le_of_ble_eq_true rfl, Nat.le_of_ble_eq_true rfl⟩ (fun r_151 u_152 H locs hr_151 hP hD hS => ?_)
                      obtain ⟨q_153, q_154⟩ := u_152
                      try dsimp only at hr_151
                      obtain ⟨hbq_153, hbq_154, hsr_151_0, hsr_151_1, hsr_151_2, hsr_151_3, hr_151⟩ := hr_151
                      have h9R := zRe (ws' := [(ri, .inl (cI, 132, .inl (upd (upd (upd fi slot.toNatClampNeg 3) x_109.toNatClampNeg r_113) x_129.toNatClampNeg r_132))), (rd, .inr (3, [.ref ri, .ref rl, .int rz, .int rc, .int q_153, .int q_154, .int rt, .int ru])), (rl, .inl (cI, 160, .inl fl))]) hP hD rfl
                      clear hP hD
                      obtain ⟨hP, hD⟩ := h9R
                      obtain ⟨g_155, g_156⟩ := hr_151
                      refine va_iast hx hb hK hP hD hS 0 0 rfl rfl (zf_in (by omega) (by omega)) dX3_readItem_66 (fun H locs hP hD hS => ?_)
                      have h9R := zRe (ws' := [(ri, .inl (cI, 132, .inl (upd (upd (upd (upd fi slot.toNatClampNeg 3) x_109.toNatClampNeg r_113) x_129.toNatClampNeg r_132) x_148.toNatClampNeg r_151))), (rd, .inr (3, [.ref ri, .ref rl, .int rz, .int rc, .int q_153, .int q_154, .int rt, .int ru])), (rl, .inl (cI, 160, .inl fl))]) hP hD rfl
                      clear hP hD
                      obtain ⟨hP, hD⟩ := h9R
                      have hn2 : zN1 fl rz.toInt (q_134 : Int32).toInt (zLo 3 2) (zHi 3 2 rt.toInt) = ((q_154 : Int32).toInt, (q_153 : Int32).toInt, r_151.toInt) := zN1_yes (p1 := (q_143 : Int32).toInt) (lo2 := ((1 : Int32)).toInt) (hi2 := ((60 : Int32)).toInt) (by omega) (by omega) hsr_151_1 hsr_151_2 (by first | decide | (show (0 : Int) = _; omega)) (by first | decide | (show (60 : Int) = _; decide) | (show rt.toInt - 1 = _; omega) | (show rt.toInt = _; omega)) (by omega)
                      refine lv_aload_n hx hb dX3_readItem_67 rfl (lv_at hl 2 rfl) ?_
                      refine va_get (D := D) (ci := 3) (v := .int q_154) (C := RX3) (T := TX3) (N := 8) hx hb hts hi_X3_readItem_3 hown hK hP 1 rfl rfl 5 (by decide) (hts (.fieldLink RX3 28 "TheLiningsInIt$Reader" "fault" "I") (List.mem_of_getElem? (i := 2) rfl)) (fun _ h9 => h9) rfl dX3_readItem_68 ?_
                      refine lv_iconst (v := (-1)) hx hb dX3_readItem_71 (by decide) ?_
                      refine lv_icmp_eq (tgt := 76) hx hb dX3_readItem_72 (by decide) (fun c_157 => ?_) (fun c_157 => ?_)
                      · have fc_157 : q_154.toInt = (-1) := zf_eq c_157 rfl (by decide)
                        refine lv_iinc (v := 3) (lv' := [(3, .int 3), (2, .int 3), (0, .ref rd), (1, .int slot)]) hx hb dX3_readItem_76 hl (k := 0) rfl (by decide) (by decide) rfl (fun ls hl => ?_)
                        refine lv_goto (tgt := 20) hx hb dX3_readItem_79 (by decide) ?_
                        refine lv_iload_n hx hb dX3_readItem_20 rfl (lv_at hl 0 rfl) ?_
                        refine lv_iload_n hx hb dX3_readItem_21 rfl (lv_at hl 1 rfl) ?_
                        refine zc_S (As := [.int 3]) (rest := [.int 3]) ⟨hx, hb, hml, hown, hts⟩ (c_R_numbersOf_3 l D cI cJ cZ cP cS po  ) (va_cwS 1 hts gX3_readItem_X3_numbersOf rfl rfl rfl dh_X3_numbersOf ⟨Nat.le_of_ble_eq_true rfl, Nat.le_of_ble_eq_true rfl⟩) hK hN (hZ.kept hS) rfl hl.1 rfl (Nat.le_of_ble_eq_true rfl) dX3_readItem_22 ⟨Nat.le_of_ble_eq_true rfl, Nat.le_of_ble_eq_true rfl⟩ (fun r_158 hr_158 => ?_)
                        obtain rfl := hr_158
                        refine lv_icmp_ge (tgt := 82) hx hb dX3_readItem_25 (by decide) (fun c_159 => ?_) (fun c_159 => ?_)
                        · refine lv_iload_n hx hb dX3_readItem_82 rfl (lv_at hl 1 rfl) ?_
                          refine lv_if_ne (tgt := 101) hx hb dX3_readItem_83 (by decide) (fun c_160 => ?_) (fun c_160 => ?_)
                          · refine lv_iload_n hx hb dX3_readItem_101 rfl (lv_at hl 1 rfl) ?_
                            refine lv_iconst (v := 3) hx hb dX3_readItem_102 (by decide) ?_
                            refine lv_icmp_ne (tgt := 116) hx hb dX3_readItem_103 (by decide) (fun c_161 => ?_) (fun c_161 => ?_)
                            · exact absurd c_161 (by decide)
                            · refine lv_aload_n hx hb dX3_readItem_106 rfl (lv_at hl 2 rfl) ?_
                              refine lv_dup hx hb dX3_readItem_107 rfl ?_
                              refine va_get (D := D) (ci := 3) (v := .int ru) (C := RX3) (T := TX3) (N := 8) hx hb hts hi_X3_readItem_3 hown hK hP 1 rfl rfl 7 (by decide) (hts (.fieldLink RX3 34 "TheLiningsInIt$Reader" "pulls" "I") (List.mem_of_getElem? (i := 4) rfl)) (fun _ h9 => h9) rfl dX3_readItem_108 ?_
                              refine lv_iconst (v := 1) hx hb dX3_readItem_111 (by decide) ?_
                              refine lv_iadd hx hb dX3_readItem_112 ?_
                              refine lv_topi (fun x_162 ex_162 => ?_)
                              have qx_162 : x_162.toInt = ru.toInt + 1 := by rw [ex_162]; exact zf_add rfl (by decide) (by omega) (by omega)
                              refine va_put (D := D) (ci := 3) (v := .int x_162) (ty := .int) (C := RX3) (T := TX3) (N := 8) hx hb hts hi_X3_readItem_3 tyX3 tyX3_ok nmX3 hown hK hP hD hS 1 rfl rfl 7 (by decide) (hts (.fieldLink RX3 34 "TheLiningsInIt$Reader" "pulls" "I") (List.mem_of_getElem? (i := 4) rfl)) (fun _ h9 => h9) rfl (tyX3_ok 7 (Nat.le_of_ble_eq_true rfl)) rfl rfl (Nat.le_of_ble_eq_true rfl) dX3_readItem_113 (fun H locs hP hD hS => ?_)
                              have h9R := zRe (ws' := [(ri, .inl (cI, 132, .inl (upd (upd (upd (upd fi slot.toNatClampNeg 3) x_109.toNatClampNeg r_113) x_129.toNatClampNeg r_132) x_148.toNatClampNeg r_151))), (rd, .inr (3, [.ref ri, .ref rl, .int rz, .int rc, .int q_153, .int q_154, .int rt, .int x_162])), (rl, .inl (cI, 160, .inl fl))]) hP hD rfl
                              clear hP hD
                              obtain ⟨hP, hD⟩ := h9R
                              have e0 : slot.toNatClampNeg = slot.toInt.toNat + 0 := (by show (slot : Int32).toInt.toNat = _; omega)
                              have e1 : x_109.toNatClampNeg = slot.toInt.toNat + 1 := (by show (x_109 : Int32).toInt.toNat = _; omega)
                              have e2 : x_129.toNatClampNeg = slot.toInt.toNat + 2 := (by show (x_129 : Int32).toInt.toNat = _; omega)
                              have e3 : x_148.toNatClampNeg = slot.toInt.toNat + 3 := (by show (x_148 : Int32).toInt.toNat = _; omega)
                              have hI := zIn_c (by have z := hn0; rw [show (q_116 : Int32).toInt = -1 from by omega] at z; exact z) (by decide) (by have z := hn1; rw [show (q_135 : Int32).toInt = -1 from by omega] at z; exact z) (by decide) hn2
                              exact W.vret hx hb hr (fun t ht hW => ⟨⟨(q_153, q_154, rt, x_162, (upd (upd (upd (upd fi slot.toNatClampNeg 3) x_109.toNatClampNeg r_113) x_129.toNatClampNeg r_132) x_148.toNatClampNeg r_151)), rfl, ⟨(show 0 ≤ q_153.toInt ∧ q_153.toInt ≤ 160 from hbq_153), (show (-1) ≤ q_154.toInt ∧ q_154.toInt ≤ 160 from hbq_154), (show 0 ≤ rt.toInt ∧ rt.toInt ≤ 40 from ⟨hy9, hy10⟩), (show 0 ≤ x_162.toInt ∧ x_162.toInt ≤ 8 from ⟨by omega, by omega⟩), (show q_153.toInt ≤ rz.toInt from by omega), (show (q_154.toInt = -1 → zIt (upd (upd (upd (upd fi slot.toNatClampNeg 3) x_109.toNatClampNeg r_113) x_129.toNatClampNeg r_132) x_148.toNatClampNeg r_151) slot.toInt.toNat) from by (intro h; have k5 : (3 : Int32).toInt = 3 := (by decide); exact zIt_mk (by simp only [upd]; rw [if_neg (by omega), if_neg (by omega), if_neg (by omega), if_pos (by omega)]) (by simp only [upd]; rw [if_neg (by omega), if_neg (by omega), if_pos (by omega)]) (by simp only [upd]; rw [if_neg (by omega), if_pos (by omega)]) (by simp only [upd]; rw [if_pos (by omega)]) (by unfold zItv; refine ⟨?_, ?_, ?_, ?_, ?_, ?_, ?_, ?_, ?_, ?_, ?_⟩ <;> (intros; omega)))), (show (∀ j : Nat, j < slot.toInt.toNat → (upd (upd (upd (upd fi slot.toNatClampNeg 3) x_109.toNatClampNeg r_113) x_129.toNatClampNeg r_132) x_148.toNatClampNeg r_151) j = fi j) from by (intro j hj; simp only [upd]; rw [if_neg (by omega), if_neg (by omega), if_neg (by omega), if_neg (by omega)])), (show (q_154.toInt = (zItem fl rz.toInt rp.toInt rt.toInt ru.toInt).1 ∧ (q_154.toInt = -1 → q_153.toInt = (zItem fl rz.toInt rp.toInt rt.toInt ru.toInt).2.1 ∧ rt.toInt = (zItem fl rz.toInt rp.toInt rt.toInt ru.toInt).2.2.1 ∧ x_162.toInt = (zItem fl rz.toInt rp.toInt rt.toInt ru.toInt).2.2.2)) from by (have z9 := hsr_1_1; rw [kc3] at z9; have hq : zFst fl rz.toInt rp.toInt zWds 10 = 3 ∧ ¬ ((3 : Int) = 3 ∧ ru.toInt = 8) := (by omega); have hl9 : (q_3 : Int32).toInt = rp.toInt + ((zWds ((3 : Int)).toNat).length : Nat) := (by omega); rw [zItem_w hq.1 (by decide) hq.2 hl9 hI]; dsimp only; exact ⟨by (first | rfl | omega), fun h => ⟨by (first | rfl | omega), by (show _ = (if (3 : Int) = 0 then _ else _); rw [if_neg (by decide)]), by (show _ = (if (3 : Int) = 3 then _ else _); first | (rw [if_pos rfl]; done) | (rw [if_pos rfl]; omega))⟩⟩)), (show (q_154.toInt = -1 → (((upd (upd (upd (upd fi slot.toNatClampNeg 3) x_109.toNatClampNeg r_113) x_129.toNatClampNeg r_132) x_148.toNatClampNeg r_151) slot.toInt.toNat).toInt = 0 → rt.toInt = ((upd (upd (upd (upd fi slot.toNatClampNeg 3) x_109.toNatClampNeg r_113) x_129.toNatClampNeg r_132) x_148.toNatClampNeg r_151) (slot.toInt.toNat + 1)).toInt) ∧ (((upd (upd (upd (upd fi slot.toNatClampNeg 3) x_109.toNatClampNeg r_113) x_129.toNatClampNeg r_132) x_148.toNatClampNeg r_151) slot.toInt.toNat).toInt ≠ 0 → rt.toInt = rt.toInt) ∧ (((upd (upd (upd (upd fi slot.toNatClampNeg 3) x_109.toNatClampNeg r_113) x_129.toNatClampNeg r_132) x_148.toNatClampNeg r_151) slot.toInt.toNat).toInt = 3 → x_162.toInt = ru.toInt + 1) ∧ (((upd (upd (upd (upd fi slot.toNatClampNeg 3) x_109.toNatClampNeg r_113) x_129.toNatClampNeg r_132) x_148.toNatClampNeg r_151) slot.toInt.toNat).toInt ≠ 3 → x_162.toInt = ru.toInt)) from by (intro h; have g0 : (upd (upd (upd (upd fi slot.toNatClampNeg 3) x_109.toNatClampNeg r_113) x_129.toNatClampNeg r_132) x_148.toNatClampNeg r_151) slot.toInt.toNat = (3 : Int32) := (by simp only [upd]; rw [if_neg (by omega), if_neg (by omega), if_neg (by omega), if_pos (by omega)]); have g1 : (upd (upd (upd (upd fi slot.toNatClampNeg 3) x_109.toNatClampNeg r_113) x_129.toNatClampNeg r_132) x_148.toNatClampNeg r_151) (slot.toInt.toNat + 1) = (r_113 : Int32) := (by simp only [upd]; rw [if_neg (by omega), if_neg (by omega), if_pos (by omega)]); rw [g0, g1]; refine ⟨?_, ?_, ?_, ?_⟩ <;> (intro h9; first | rfl | omega | (exfalso; omega)))), (show (q_154.toInt = -1 → zSm (zDS (upd (upd (upd (upd fi slot.toNatClampNeg 3) x_109.toNatClampNeg r_113) x_129.toNatClampNeg r_132) x_148.toNatClampNeg r_151) slot.toInt.toNat) (zIm fl rz.toInt rp.toInt rt.toInt)) from by (intro h; have g0 : (upd (upd (upd (upd fi slot.toNatClampNeg 3) x_109.toNatClampNeg r_113) x_129.toNatClampNeg r_132) x_148.toNatClampNeg r_151) (slot.toInt.toNat + 0) = (3 : Int32) := (by simp only [upd]; rw [if_neg (by omega), if_neg (by omega), if_neg (by omega), if_pos (by omega)]); have g1 : (upd (upd (upd (upd fi slot.toNatClampNeg 3) x_109.toNatClampNeg r_113) x_129.toNatClampNeg r_132) x_148.toNatClampNeg r_151) (slot.toInt.toNat + 1) = (r_113 : Int32) := (by simp only [upd]; rw [if_neg (by omega), if_neg (by omega), if_pos (by omega)]); have g2 : (upd (upd (upd (upd fi slot.toNatClampNeg 3) x_109.toNatClampNeg r_113) x_129.toNatClampNeg r_132) x_148.toNatClampNeg r_151) (slot.toInt.toNat + 2) = (r_132 : Int32) := (by simp only [upd]; rw [if_neg (by omega), if_pos (by omega)]); have g3 : (upd (upd (upd (upd fi slot.toNatClampNeg 3) x_109.toNatClampNeg r_113) x_129.toNatClampNeg r_132) x_148.toNatClampNeg r_151) (slot.toInt.toNat + 3) = (r_151 : Int32) := (by simp only [upd]; rw [if_pos (by omega)]); have z9 := hsr_1_1; rw [kc3] at z9; have hW : zIW fl rz.toInt rp.toInt = 3 := (by unfold zIW; omega); have hP9 : zIP fl rz.toInt rp.toInt = (q_3 : Int32).toInt := (by unfold zIP; rw [hW]; have hl9 : (q_3 : Int32).toInt = rp.toInt + ((zWds ((3 : Int)).toNat).length : Nat) := (by omega); exact hl9.symm); exact ⟨(show ((upd (upd (upd (upd fi slot.toNatClampNeg 3) x_109.toNatClampNeg r_113) x_129.toNatClampNeg r_132) x_148.toNatClampNeg r_151) (slot.toInt.toNat + 0)).toInt = zIW fl rz.toInt rp.toInt from by (rw [g0, hW]; omega)), (show ((upd (upd (upd (upd fi slot.toNatClampNeg 3) x_109.toNatClampNeg r_113) x_129.toNatClampNeg r_132) x_148.toNatClampNeg r_151) (slot.toInt.toNat + 1)).toInt = (zIn fl rz.toInt (zIP fl rz.toInt rp.toInt) rt.toInt (zIW fl rz.toInt rp.toInt)).2.2 from by (rw [g1, hP9, hW, hI])), fun hz => (show ((upd (upd (upd (upd fi slot.toNatClampNeg 3) x_109.toNatClampNeg r_113) x_129.toNatClampNeg r_132) x_148.toNatClampNeg r_151) (slot.toInt.toNat + 2)).toInt = zV2 fl rz.toInt (zIP fl rz.toInt rp.toInt) rt.toInt (zIW fl rz.toInt rp.toInt) from by (rw [g2, hP9, hW]; exact (zV2_eq hn0 hn1).symm)), fun hz => (show ((upd (upd (upd (upd fi slot.toNatClampNeg 3) x_109.toNatClampNeg r_113) x_129.toNatClampNeg r_132) x_148.toNatClampNeg r_151) (slot.toInt.toNat + 3)).toInt = zV3 fl rz.toInt (zIP fl rz.toInt rp.toInt) rt.toInt (zIW fl rz.toInt rp.toInt) from by (rw [g3, hP9, hW]; exact (zV3_eq hn0 hn1 hn2).symm))⟩)), trivial⟩, zRet ht hP hD [1, 2, 0] (by decide) rfl⟩, hS.F ht⟩) hS.2.2 dX3_readItem_116
                          · exact absurd c_160 (by decide)
                        · exact absurd c_159 (by decide)
                      · have fc_157 : q_154.toInt ≠ (-1) := zf_ne c_157 rfl (by decide)
                        have e0 : slot.toNatClampNeg = slot.toInt.toNat + 0 := (by show (slot : Int32).toInt.toNat = _; omega)
                        have e1 : x_109.toNatClampNeg = slot.toInt.toNat + 1 := (by show (x_109 : Int32).toInt.toNat = _; omega)
                        have e2 : x_129.toNatClampNeg = slot.toInt.toNat + 2 := (by show (x_129 : Int32).toInt.toNat = _; omega)
                        have e3 : x_148.toNatClampNeg = slot.toInt.toNat + 3 := (by show (x_148 : Int32).toInt.toNat = _; omega)
                        have hI := zIn_c (by have z := hn0; rw [show (q_116 : Int32).toInt = -1 from by omega] at z; exact z) (by decide) (by have z := hn1; rw [show (q_135 : Int32).toInt = -1 from by omega] at z; exact z) (by decide) hn2
                        exact W.vret hx hb hr (fun t ht hW => ⟨⟨(q_153, q_154, rt, ru, (upd (upd (upd (upd fi slot.toNatClampNeg 3) x_109.toNatClampNeg r_113) x_129.toNatClampNeg r_132) x_148.toNatClampNeg r_151)), rfl, ⟨(show 0 ≤ q_153.toInt ∧ q_153.toInt ≤ 160 from hbq_153), (show (-1) ≤ q_154.toInt ∧ q_154.toInt ≤ 160 from hbq_154), (show 0 ≤ rt.toInt ∧ rt.toInt ≤ 40 from ⟨hy9, hy10⟩), (show 0 ≤ ru.toInt ∧ ru.toInt ≤ 8 from ⟨hy11, hy12⟩), (show q_153.toInt ≤ rz.toInt from by omega), (show (q_154.toInt = -1 → zIt (upd (upd (upd (upd fi slot.toNatClampNeg 3) x_109.toNatClampNeg r_113) x_129.toNatClampNeg r_132) x_148.toNatClampNeg r_151) slot.toInt.toNat) from by (intro h; exfalso; omega)), (show (∀ j : Nat, j < slot.toInt.toNat → (upd (upd (upd (upd fi slot.toNatClampNeg 3) x_109.toNatClampNeg r_113) x_129.toNatClampNeg r_132) x_148.toNatClampNeg r_151) j = fi j) from by (intro j hj; simp only [upd]; rw [if_neg (by omega), if_neg (by omega), if_neg (by omega), if_neg (by omega)])), (show (q_154.toInt = (zItem fl rz.toInt rp.toInt rt.toInt ru.toInt).1 ∧ (q_154.toInt = -1 → q_153.toInt = (zItem fl rz.toInt rp.toInt rt.toInt ru.toInt).2.1 ∧ rt.toInt = (zItem fl rz.toInt rp.toInt rt.toInt ru.toInt).2.2.1 ∧ ru.toInt = (zItem fl rz.toInt rp.toInt rt.toInt ru.toInt).2.2.2)) from by (have z9 := hsr_1_1; rw [kc3] at z9; have hq : zFst fl rz.toInt rp.toInt zWds 10 = 3 ∧ ¬ ((3 : Int) = 3 ∧ ru.toInt = 8) := (by omega); have hl9 : (q_3 : Int32).toInt = rp.toInt + ((zWds ((3 : Int)).toNat).length : Nat) := (by omega); rw [zItem_w hq.1 (by decide) hq.2 hl9 hI]; dsimp only; exact ⟨by (first | rfl | omega), fun h => ⟨by (first | rfl | omega), by (show _ = (if (3 : Int) = 0 then _ else _); rw [if_neg (by decide)]), by (show _ = (if (3 : Int) = 3 then _ else _); first | (rw [if_pos rfl]; done) | (rw [if_pos rfl]; omega))⟩⟩)), (show (q_154.toInt = -1 → (((upd (upd (upd (upd fi slot.toNatClampNeg 3) x_109.toNatClampNeg r_113) x_129.toNatClampNeg r_132) x_148.toNatClampNeg r_151) slot.toInt.toNat).toInt = 0 → rt.toInt = ((upd (upd (upd (upd fi slot.toNatClampNeg 3) x_109.toNatClampNeg r_113) x_129.toNatClampNeg r_132) x_148.toNatClampNeg r_151) (slot.toInt.toNat + 1)).toInt) ∧ (((upd (upd (upd (upd fi slot.toNatClampNeg 3) x_109.toNatClampNeg r_113) x_129.toNatClampNeg r_132) x_148.toNatClampNeg r_151) slot.toInt.toNat).toInt ≠ 0 → rt.toInt = rt.toInt) ∧ (((upd (upd (upd (upd fi slot.toNatClampNeg 3) x_109.toNatClampNeg r_113) x_129.toNatClampNeg r_132) x_148.toNatClampNeg r_151) slot.toInt.toNat).toInt = 3 → ru.toInt = ru.toInt + 1) ∧ (((upd (upd (upd (upd fi slot.toNatClampNeg 3) x_109.toNatClampNeg r_113) x_129.toNatClampNeg r_132) x_148.toNatClampNeg r_151) slot.toInt.toNat).toInt ≠ 3 → ru.toInt = ru.toInt)) from by (intro h; exfalso; omega)), (show (q_154.toInt = -1 → zSm (zDS (upd (upd (upd (upd fi slot.toNatClampNeg 3) x_109.toNatClampNeg r_113) x_129.toNatClampNeg r_132) x_148.toNatClampNeg r_151) slot.toInt.toNat) (zIm fl rz.toInt rp.toInt rt.toInt)) from by (intro h; exfalso; omega)), trivial⟩, zRet ht hP hD [1, 2, 0] (by decide) rfl⟩, hS.F ht⟩) hS.2.2 dX3_readItem_75
                · have fc_138 : q_135.toInt ≠ (-1) := zf_ne c_138 rfl (by decide)
                  have e0 : slot.toNatClampNeg = slot.toInt.toNat + 0 := (by show (slot : Int32).toInt.toNat = _; omega)
                  have e1 : x_109.toNatClampNeg = slot.toInt.toNat + 1 := (by show (x_109 : Int32).toInt.toNat = _; omega)
                  have e2 : x_129.toNatClampNeg = slot.toInt.toNat + 2 := (by show (x_129 : Int32).toInt.toNat = _; omega)
                  have hI := zIn_b (by have z := hn0; rw [show (q_116 : Int32).toInt = -1 from by omega] at z; exact z) (by decide) hn1 (by first | (right; decide) | (left; omega))
                  exact W.vret hx hb hr (fun t ht hW => ⟨⟨(q_134, q_135, rt, ru, (upd (upd (upd fi slot.toNatClampNeg 3) x_109.toNatClampNeg r_113) x_129.toNatClampNeg r_132)), rfl, ⟨(show 0 ≤ q_134.toInt ∧ q_134.toInt ≤ 160 from hbq_134), (show (-1) ≤ q_135.toInt ∧ q_135.toInt ≤ 160 from hbq_135), (show 0 ≤ rt.toInt ∧ rt.toInt ≤ 40 from ⟨hy9, hy10⟩), (show 0 ≤ ru.toInt ∧ ru.toInt ≤ 8 from ⟨hy11, hy12⟩), (show q_134.toInt ≤ rz.toInt from by omega), (show (q_135.toInt = -1 → zIt (upd (upd (upd fi slot.toNatClampNeg 3) x_109.toNatClampNeg r_113) x_129.toNatClampNeg r_132) slot.toInt.toNat) from by (intro h; exfalso; omega)), (show (∀ j : Nat, j < slot.toInt.toNat → (upd (upd (upd fi slot.toNatClampNeg 3) x_109.toNatClampNeg r_113) x_129.toNatClampNeg r_132) j = fi j) from by (intro j hj; simp only [upd]; rw [if_neg (by omega), if_neg (by omega), if_neg (by omega)])), (show (q_135.toInt = (zItem fl rz.toInt rp.toInt rt.toInt ru.toInt).1 ∧ (q_135.toInt = -1 → q_134.toInt = (zItem fl rz.toInt rp.toInt rt.toInt ru.toInt).2.1 ∧ rt.toInt = (zItem fl rz.toInt rp.toInt rt.toInt ru.toInt).2.2.1 ∧ ru.toInt = (zItem fl rz.toInt rp.toInt rt.toInt ru.toInt).2.2.2)) from by (have z9 := hsr_1_1; rw [kc3] at z9; have hq : zFst fl rz.toInt rp.toInt zWds 10 = 3 ∧ ¬ ((3 : Int) = 3 ∧ ru.toInt = 8) := (by omega); have hl9 : (q_3 : Int32).toInt = rp.toInt + ((zWds ((3 : Int)).toNat).length : Nat) := (by omega); rw [zItem_w hq.1 (by decide) hq.2 hl9 hI]; dsimp only; exact ⟨by (first | rfl | omega), fun h => ⟨by (first | rfl | omega), by (show _ = (if (3 : Int) = 0 then _ else _); rw [if_neg (by decide)]), by (show _ = (if (3 : Int) = 3 then _ else _); first | (rw [if_pos rfl]; done) | (rw [if_pos rfl]; omega))⟩⟩)), (show (q_135.toInt = -1 → (((upd (upd (upd fi slot.toNatClampNeg 3) x_109.toNatClampNeg r_113) x_129.toNatClampNeg r_132) slot.toInt.toNat).toInt = 0 → rt.toInt = ((upd (upd (upd fi slot.toNatClampNeg 3) x_109.toNatClampNeg r_113) x_129.toNatClampNeg r_132) (slot.toInt.toNat + 1)).toInt) ∧ (((upd (upd (upd fi slot.toNatClampNeg 3) x_109.toNatClampNeg r_113) x_129.toNatClampNeg r_132) slot.toInt.toNat).toInt ≠ 0 → rt.toInt = rt.toInt) ∧ (((upd (upd (upd fi slot.toNatClampNeg 3) x_109.toNatClampNeg r_113) x_129.toNatClampNeg r_132) slot.toInt.toNat).toInt = 3 → ru.toInt = ru.toInt + 1) ∧ (((upd (upd (upd fi slot.toNatClampNeg 3) x_109.toNatClampNeg r_113) x_129.toNatClampNeg r_132) slot.toInt.toNat).toInt ≠ 3 → ru.toInt = ru.toInt)) from by (intro h; exfalso; omega)), (show (q_135.toInt = -1 → zSm (zDS (upd (upd (upd fi slot.toNatClampNeg 3) x_109.toNatClampNeg r_113) x_129.toNatClampNeg r_132) slot.toInt.toNat) (zIm fl rz.toInt rp.toInt rt.toInt)) from by (intro h; exfalso; omega)), trivial⟩, zRet ht hP hD [1, 2, 0] (by decide) rfl⟩, hS.F ht⟩) hS.2.2 dX3_readItem_75
          · have fc_119 : q_116.toInt ≠ (-1) := zf_ne c_119 rfl (by decide)
            have e0 : slot.toNatClampNeg = slot.toInt.toNat + 0 := (by show (slot : Int32).toInt.toNat = _; omega)
            have e1 : x_109.toNatClampNeg = slot.toInt.toNat + 1 := (by show (x_109 : Int32).toInt.toNat = _; omega)
            have hI := zIn_a hn0 (by first | (right; decide) | (left; omega))
            exact W.vret hx hb hr (fun t ht hW => ⟨⟨(q_115, q_116, rt, ru, (upd (upd fi slot.toNatClampNeg 3) x_109.toNatClampNeg r_113)), rfl, ⟨(show 0 ≤ q_115.toInt ∧ q_115.toInt ≤ 160 from hbq_115), (show (-1) ≤ q_116.toInt ∧ q_116.toInt ≤ 160 from hbq_116), (show 0 ≤ rt.toInt ∧ rt.toInt ≤ 40 from ⟨hy9, hy10⟩), (show 0 ≤ ru.toInt ∧ ru.toInt ≤ 8 from ⟨hy11, hy12⟩), (show q_115.toInt ≤ rz.toInt from by omega), (show (q_116.toInt = -1 → zIt (upd (upd fi slot.toNatClampNeg 3) x_109.toNatClampNeg r_113) slot.toInt.toNat) from by (intro h; exfalso; omega)), (show (∀ j : Nat, j < slot.toInt.toNat → (upd (upd fi slot.toNatClampNeg 3) x_109.toNatClampNeg r_113) j = fi j) from by (intro j hj; simp only [upd]; rw [if_neg (by omega), if_neg (by omega)])), (show (q_116.toInt = (zItem fl rz.toInt rp.toInt rt.toInt ru.toInt).1 ∧ (q_116.toInt = -1 → q_115.toInt = (zItem fl rz.toInt rp.toInt rt.toInt ru.toInt).2.1 ∧ rt.toInt = (zItem fl rz.toInt rp.toInt rt.toInt ru.toInt).2.2.1 ∧ ru.toInt = (zItem fl rz.toInt rp.toInt rt.toInt ru.toInt).2.2.2)) from by (have z9 := hsr_1_1; rw [kc3] at z9; have hq : zFst fl rz.toInt rp.toInt zWds 10 = 3 ∧ ¬ ((3 : Int) = 3 ∧ ru.toInt = 8) := (by omega); have hl9 : (q_3 : Int32).toInt = rp.toInt + ((zWds ((3 : Int)).toNat).length : Nat) := (by omega); rw [zItem_w hq.1 (by decide) hq.2 hl9 hI]; dsimp only; exact ⟨by (first | rfl | omega), fun h => ⟨by (first | rfl | omega), by (show _ = (if (3 : Int) = 0 then _ else _); rw [if_neg (by decide)]), by (show _ = (if (3 : Int) = 3 then _ else _); first | (rw [if_pos rfl]; done) | (rw [if_pos rfl]; omega))⟩⟩)), (show (q_116.toInt = -1 → (((upd (upd fi slot.toNatClampNeg 3) x_109.toNatClampNeg r_113) slot.toInt.toNat).toInt = 0 → rt.toInt = ((upd (upd fi slot.toNatClampNeg 3) x_109.toNatClampNeg r_113) (slot.toInt.toNat + 1)).toInt) ∧ (((upd (upd fi slot.toNatClampNeg 3) x_109.toNatClampNeg r_113) slot.toInt.toNat).toInt ≠ 0 → rt.toInt = rt.toInt) ∧ (((upd (upd fi slot.toNatClampNeg 3) x_109.toNatClampNeg r_113) slot.toInt.toNat).toInt = 3 → ru.toInt = ru.toInt + 1) ∧ (((upd (upd fi slot.toNatClampNeg 3) x_109.toNatClampNeg r_113) slot.toInt.toNat).toInt ≠ 3 → ru.toInt = ru.toInt)) from by (intro h; exfalso; omega)), (show (q_116.toInt = -1 → zSm (zDS (upd (upd fi slot.toNatClampNeg 3) x_109.toNatClampNeg r_113) slot.toInt.toNat) (zIm fl rz.toInt rp.toInt rt.toInt)) from by (intro h; exfalso; omega)), trivial⟩, zRet ht hP hD [1, 2, 0] (by decide) rfl⟩, hS.F ht⟩) hS.2.2 dX3_readItem_75
    · have kc4 : (4 : Int32).toInt = 4 := by decide
      refine lv_aload_n hx hb dX3_readItem_11 rfl (lv_at hl 1 rfl) ?_
      refine va_get (D := D) (ci := 3) (v := .ref ri) (C := RX3) (T := TX3) (N := 8) hx hb hts hi_X3_readItem_3 hown hK hP 1 rfl rfl 0 (by decide) (hts (.fieldLink RX3 11 "TheLiningsInIt$Reader" "items" "[I") (List.mem_of_getElem? (i := 1) rfl)) (fun _ h9 => h9) rfl dX3_readItem_12 ?_
      refine lv_iload_n hx hb dX3_readItem_15 rfl (lv_at hl 2 rfl) ?_
      refine lv_iload_n hx hb dX3_readItem_16 rfl (lv_at hl 0 rfl) ?_
      refine va_iast hx hb hK hP hD hS 0 0 rfl rfl (zf_in (by omega) (by omega)) dX3_readItem_17 (fun H locs hP hD hS => ?_)
      have h9R := zRe (ws' := [(ri, .inl (cI, 132, .inl (upd fi slot.toNatClampNeg 4))), (rd, .inr (3, [.ref ri, .ref rl, .int rz, .int rc, .int q_3, .int q_4, .int rt, .int ru])), (rl, .inl (cI, 160, .inl fl))]) hP hD rfl
      clear hP hD
      obtain ⟨hP, hD⟩ := h9R
      refine lv_iconst (v := 0) hx hb dX3_readItem_18 (by decide) ?_
      refine lv_istore_n (lv' := [(3, .int 0), (2, .int 4), (0, .ref rd), (1, .int slot)]) hx hb dX3_readItem_19 rfl hl (by decide) rfl (fun ls hl => ?_)
      refine lv_iload_n hx hb dX3_readItem_20 rfl (lv_at hl 0 rfl) ?_
      refine lv_iload_n hx hb dX3_readItem_21 rfl (lv_at hl 1 rfl) ?_
      refine zc_S (As := [.int 4]) (rest := [.int 0]) ⟨hx, hb, hml, hown, hts⟩ (c_R_numbersOf_4 l D cI cJ cZ cP cS po  ) (va_cwS 1 hts gX3_readItem_X3_numbersOf rfl rfl rfl dh_X3_numbersOf ⟨Nat.le_of_ble_eq_true rfl, Nat.le_of_ble_eq_true rfl⟩) hK hN (hZ.kept hS) rfl hl.1 rfl (Nat.le_of_ble_eq_true rfl) dX3_readItem_22 ⟨Nat.le_of_ble_eq_true rfl, Nat.le_of_ble_eq_true rfl⟩ (fun r_163 hr_163 => ?_)
      obtain rfl := hr_163
      refine lv_icmp_ge (tgt := 82) hx hb dX3_readItem_25 (by decide) (fun c_164 => ?_) (fun c_164 => ?_)
      · exact absurd c_164 (by decide)
      · refine lv_aload_n hx hb dX3_readItem_28 rfl (lv_at hl 2 rfl) ?_
        refine lv_bipush (v := 32) hx hb dX3_readItem_29 (by decide) ?_
        have kc32 : (32 : Int32).toInt = 32 := by decide
        skip
        refine zw_Vv (As := [.int 32]) (rest := []) (wr := [(ri, .inl (cI, 132, .inl (upd fi slot.toNatClampNeg 4)))]) ⟨hx, hb, hml, hown, hts⟩ (c_F_R_expect l D cI cJ cZ cP cS po rd ri rl (rz) (rc) (q_3) (q_4) (rt) (ru) fl (32) hy0 hy1 hy2 hy3 hbq_3.1 hbq_3.2 (by omega) hbq_4.1 hbq_4.2 hy9 hy10 hy11 hy12 H.size) (cwV 1 hts gX3_readItem_X3_expect rfl rfl rfl ⟨rfl, dh_X3_expect⟩ ⟨Nat.le_of_ble_eq_true rfl, Nat.le_of_ble_eq_true rfl⟩) hK hN (hZ.kept hS) hP hD hS hA [1, 2] [0] rfl rfl (by decide) (by decide) (by decide) (va_recv (q := (RX3, TX3, 8)) hK hP (ci := 3) (q0 := 1) rfl rfl) rfl hl.1 rfl (Nat.le_of_ble_eq_true rfl) dX3_readItem_31 ⟨Nat.le_of_ble_eq_true rfl, Nat.le_of_ble_eq_true rfl⟩ (fun u_166 H locs hr_165 hP hD hS => ?_)
        obtain ⟨q_167, q_168⟩ := u_166
        try dsimp only at hr_165
        obtain ⟨hbq_167, hbq_168, hsr_165_0, hsr_165_1, hr_165⟩ := hr_165
        have h9R := zRe (ws' := [(ri, .inl (cI, 132, .inl (upd fi slot.toNatClampNeg 4))), (rd, .inr (3, [.ref ri, .ref rl, .int rz, .int rc, .int q_167, .int q_168, .int rt, .int ru])), (rl, .inl (cI, 160, .inl fl))]) hP hD rfl
        clear hP hD
        obtain ⟨hP, hD⟩ := h9R
        refine lv_aload_n hx hb dX3_readItem_34 rfl (lv_at hl 2 rfl) ?_
        refine va_get (D := D) (ci := 3) (v := .int q_168) (C := RX3) (T := TX3) (N := 8) hx hb hts hi_X3_readItem_3 hown hK hP 1 rfl rfl 5 (by decide) (hts (.fieldLink RX3 28 "TheLiningsInIt$Reader" "fault" "I") (List.mem_of_getElem? (i := 2) rfl)) (fun _ h9 => h9) rfl dX3_readItem_35 ?_
        refine lv_iconst (v := (-1)) hx hb dX3_readItem_38 (by decide) ?_
        refine lv_icmp_ne (tgt := 67) hx hb dX3_readItem_39 (by decide) (fun c_169 => ?_) (fun c_169 => ?_)
        · have fc_169 : q_168.toInt ≠ (-1) := zf_ne c_169 rfl (by decide)
          have hn0 : zN1 fl rz.toInt (q_3 : Int32).toInt (zLo 4 0) (zHi 4 0 rt.toInt) = ((q_3 : Int32).toInt, (q_3 : Int32).toInt, 0) := zN1_no (by omega)
          refine lv_aload_n hx hb dX3_readItem_67 rfl (lv_at hl 2 rfl) ?_
          refine va_get (D := D) (ci := 3) (v := .int q_168) (C := RX3) (T := TX3) (N := 8) hx hb hts hi_X3_readItem_3 hown hK hP 1 rfl rfl 5 (by decide) (hts (.fieldLink RX3 28 "TheLiningsInIt$Reader" "fault" "I") (List.mem_of_getElem? (i := 2) rfl)) (fun _ h9 => h9) rfl dX3_readItem_68 ?_
          refine lv_iconst (v := (-1)) hx hb dX3_readItem_71 (by decide) ?_
          refine lv_icmp_eq (tgt := 76) hx hb dX3_readItem_72 (by decide) (fun c_170 => ?_) (fun c_170 => ?_)
          · exfalso; have fc_170 : q_168.toInt = (-1) := zf_eq c_170 rfl (by decide); omega
          · have fc_170 : q_168.toInt ≠ (-1) := zf_ne c_170 rfl (by decide)
            have e0 : slot.toNatClampNeg = slot.toInt.toNat + 0 := (by show (slot : Int32).toInt.toNat = _; omega)
            have hI := zIn_a hn0 (by first | (right; decide) | (left; omega))
            exact W.vret hx hb hr (fun t ht hW => ⟨⟨(q_167, q_168, rt, ru, (upd fi slot.toNatClampNeg 4)), rfl, ⟨(show 0 ≤ q_167.toInt ∧ q_167.toInt ≤ 160 from hbq_167), (show (-1) ≤ q_168.toInt ∧ q_168.toInt ≤ 160 from hbq_168), (show 0 ≤ rt.toInt ∧ rt.toInt ≤ 40 from ⟨hy9, hy10⟩), (show 0 ≤ ru.toInt ∧ ru.toInt ≤ 8 from ⟨hy11, hy12⟩), (show q_167.toInt ≤ rz.toInt from by omega), (show (q_168.toInt = -1 → zIt (upd fi slot.toNatClampNeg 4) slot.toInt.toNat) from by (intro h; exfalso; omega)), (show (∀ j : Nat, j < slot.toInt.toNat → (upd fi slot.toNatClampNeg 4) j = fi j) from by (intro j hj; simp only [upd]; rw [if_neg (by omega)])), (show (q_168.toInt = (zItem fl rz.toInt rp.toInt rt.toInt ru.toInt).1 ∧ (q_168.toInt = -1 → q_167.toInt = (zItem fl rz.toInt rp.toInt rt.toInt ru.toInt).2.1 ∧ rt.toInt = (zItem fl rz.toInt rp.toInt rt.toInt ru.toInt).2.2.1 ∧ ru.toInt = (zItem fl rz.toInt rp.toInt rt.toInt ru.toInt).2.2.2)) from by (have z9 := hsr_1_1; rw [kc4] at z9; have hq : zFst fl rz.toInt rp.toInt zWds 10 = 4 ∧ ¬ ((4 : Int) = 3 ∧ ru.toInt = 8) := (by omega); have hl9 : (q_3 : Int32).toInt = rp.toInt + ((zWds ((4 : Int)).toNat).length : Nat) := (by omega); rw [zItem_w hq.1 (by decide) hq.2 hl9 hI]; dsimp only; exact ⟨by (first | rfl | omega), fun h => ⟨by (first | rfl | omega), by (show _ = (if (4 : Int) = 0 then _ else _); rw [if_neg (by decide)]), by (show _ = (if (4 : Int) = 3 then _ else _); rw [if_neg (by decide)])⟩⟩)), (show (q_168.toInt = -1 → (((upd fi slot.toNatClampNeg 4) slot.toInt.toNat).toInt = 0 → rt.toInt = ((upd fi slot.toNatClampNeg 4) (slot.toInt.toNat + 1)).toInt) ∧ (((upd fi slot.toNatClampNeg 4) slot.toInt.toNat).toInt ≠ 0 → rt.toInt = rt.toInt) ∧ (((upd fi slot.toNatClampNeg 4) slot.toInt.toNat).toInt = 3 → ru.toInt = ru.toInt + 1) ∧ (((upd fi slot.toNatClampNeg 4) slot.toInt.toNat).toInt ≠ 3 → ru.toInt = ru.toInt)) from by (intro h; exfalso; omega)), (show (q_168.toInt = -1 → zSm (zDS (upd fi slot.toNatClampNeg 4) slot.toInt.toNat) (zIm fl rz.toInt rp.toInt rt.toInt)) from by (intro h; exfalso; omega)), trivial⟩, zRet ht hP hD [1, 2, 0] (by decide) rfl⟩, hS.F ht⟩) hS.2.2 dX3_readItem_75
        · have fc_169 : q_168.toInt = (-1) := zf_eq c_169 rfl (by decide)
          refine lv_aload_n hx hb dX3_readItem_42 rfl (lv_at hl 2 rfl) ?_
          refine va_get (D := D) (ci := 3) (v := .ref ri) (C := RX3) (T := TX3) (N := 8) hx hb hts hi_X3_readItem_3 hown hK hP 1 rfl rfl 0 (by decide) (hts (.fieldLink RX3 11 "TheLiningsInIt$Reader" "items" "[I") (List.mem_of_getElem? (i := 1) rfl)) (fun _ h9 => h9) rfl dX3_readItem_43 ?_
          refine lv_iload_n hx hb dX3_readItem_46 rfl (lv_at hl 3 rfl) ?_
          refine lv_iconst (v := 1) hx hb dX3_readItem_47 (by decide) ?_
          refine lv_iadd hx hb dX3_readItem_48 ?_
          refine lv_topi (fun x_171 ex_171 => ?_)
          have qx_171 : x_171.toInt = slot.toInt + 1 := by rw [ex_171]; exact zf_add rfl (by decide) (by omega) (by omega)
          refine lv_iload_n hx hb dX3_readItem_49 rfl (lv_at hl 0 rfl) ?_
          refine lv_iadd hx hb dX3_readItem_50 ?_
          refine lv_topi (fun y_172 ey_172 => ?_)
          obtain rfl : x_171 = y_172 := (ey_172.trans (Int32.add_zero x_171)).symm
          refine lv_aload_n hx hb dX3_readItem_51 rfl (lv_at hl 2 rfl) ?_
          refine lv_iload_n hx hb dX3_readItem_52 rfl (lv_at hl 1 rfl) ?_
          refine lv_iload_n hx hb dX3_readItem_53 rfl (lv_at hl 0 rfl) ?_
          refine zc_S (As := [.int 4, .int 0]) (rest := [.ref rd, .int x_171, .ref ri]) ⟨hx, hb, hml, hown, hts⟩ (c_R_leastOf_4_0 l D cI cJ cZ cP cS po  ) (va_cwS 2 hts gX3_readItem_X3_leastOf rfl rfl rfl dh_X3_leastOf ⟨Nat.le_of_ble_eq_true rfl, Nat.le_of_ble_eq_true rfl⟩) hK hN (hZ.kept hS) rfl hl.1 rfl (Nat.le_of_ble_eq_true rfl) dX3_readItem_54 ⟨Nat.le_of_ble_eq_true rfl, Nat.le_of_ble_eq_true rfl⟩ (fun r_173 hr_173 => ?_)
          obtain rfl := hr_173
          refine lv_aload_n hx hb dX3_readItem_57 rfl (lv_at hl 2 rfl) ?_
          refine lv_iload_n hx hb dX3_readItem_58 rfl (lv_at hl 1 rfl) ?_
          refine lv_iload_n hx hb dX3_readItem_59 rfl (lv_at hl 0 rfl) ?_
          refine zc_V (As := [.int 4, .int 0]) (rest := [.int 0, .ref rd, .int x_171, .ref ri]) ⟨hx, hb, hml, hown, hts⟩ (c_R_mostOf_4_0 l D cI cJ cZ cP cS po rd ri rl (rz) (rc) (q_167) (q_168) (rt) (ru) hy0 hy1 hy2 hy3 hbq_167.1 hbq_167.2 (by omega) hbq_168.1 hbq_168.2 hy9 hy10 hy11 hy12) (cwV 2 hts gX3_readItem_X3_mostOf rfl rfl rfl ⟨rfl, dh_X3_mostOf⟩ ⟨Nat.le_of_ble_eq_true rfl, Nat.le_of_ble_eq_true rfl⟩) hK hN (hZ.kept hS) hP (hP.sub [1] rfl) (va_recv (q := (RX3, TX3, 8)) hK hP (ci := 3) (q0 := 1) rfl rfl) rfl hl.1 rfl (Nat.le_of_ble_eq_true rfl) dX3_readItem_60 ⟨Nat.le_of_ble_eq_true rfl, Nat.le_of_ble_eq_true rfl⟩ (fun r_174 hr_174 => ?_)
          obtain rfl := hr_174
          have kc0 : (0 : Int32).toInt = 0 := by decide
          have kc24 : (24 : Int32).toInt = 24 := by decide
          skip
          refine zw_V (As := [.int 0, .int 24]) (rest := [.int x_171, .ref ri]) (wr := [(ri, .inl (cI, 132, .inl (upd fi slot.toNatClampNeg 4)))]) ⟨hx, hb, hml, hown, hts⟩ (c_F_R_readNumber l D cI cJ cZ cP cS po rd ri rl (rz) (rc) (q_167) (q_168) (rt) (ru) fl (0) (24) hy0 hy1 hy2 hy3 hbq_167.1 hbq_167.2 (by omega) hbq_168.1 hbq_168.2 hy9 hy10 hy11 hy12 H.size) (cwV 2 hts gX3_readItem_X3_readNumber rfl rfl rfl ⟨rfl, dh_X3_readNumber⟩ ⟨Nat.le_of_ble_eq_true rfl, Nat.le_of_ble_eq_true rfl⟩) hK hN (hZ.kept hS) hP hD hS hA [1, 2] [0] rfl rfl (by decide) (by decide) (by decide) (va_recv (q := (RX3, TX3, 8)) hK hP (ci := 3) (q0 := 1) rfl rfl) rfl hl.1 rfl (Nat.le_of_ble_eq_true rfl) dX3_readItem_63 ⟨Nat.le_of_ble_eq_true rfl, Nat.le_of_ble_eq_true rfl⟩ (fun r_175 u_176 H locs hr_175 hP hD hS => ?_)
          obtain ⟨q_177, q_178⟩ := u_176
          try dsimp only at hr_175
          obtain ⟨hbq_177, hbq_178, hsr_175_0, hsr_175_1, hsr_175_2, hsr_175_3, hr_175⟩ := hr_175
          have h9R := zRe (ws' := [(ri, .inl (cI, 132, .inl (upd fi slot.toNatClampNeg 4))), (rd, .inr (3, [.ref ri, .ref rl, .int rz, .int rc, .int q_177, .int q_178, .int rt, .int ru])), (rl, .inl (cI, 160, .inl fl))]) hP hD rfl
          clear hP hD
          obtain ⟨hP, hD⟩ := h9R
          obtain ⟨g_179, g_180⟩ := hr_175
          refine va_iast hx hb hK hP hD hS 0 0 rfl rfl (zf_in (by omega) (by omega)) dX3_readItem_66 (fun H locs hP hD hS => ?_)
          have h9R := zRe (ws' := [(ri, .inl (cI, 132, .inl (upd (upd fi slot.toNatClampNeg 4) x_171.toNatClampNeg r_175))), (rd, .inr (3, [.ref ri, .ref rl, .int rz, .int rc, .int q_177, .int q_178, .int rt, .int ru])), (rl, .inl (cI, 160, .inl fl))]) hP hD rfl
          clear hP hD
          obtain ⟨hP, hD⟩ := h9R
          have hn0 : zN1 fl rz.toInt (q_3 : Int32).toInt (zLo 4 0) (zHi 4 0 rt.toInt) = ((q_178 : Int32).toInt, (q_177 : Int32).toInt, r_175.toInt) := zN1_yes (p1 := (q_167 : Int32).toInt) (lo2 := ((0 : Int32)).toInt) (hi2 := ((24 : Int32)).toInt) (by omega) (by omega) hsr_175_1 hsr_175_2 (by first | decide | (show (0 : Int) = _; omega)) (by first | decide | (show (24 : Int) = _; decide) | (show rt.toInt - 1 = _; omega) | (show rt.toInt = _; omega)) (by omega)
          refine lv_aload_n hx hb dX3_readItem_67 rfl (lv_at hl 2 rfl) ?_
          refine va_get (D := D) (ci := 3) (v := .int q_178) (C := RX3) (T := TX3) (N := 8) hx hb hts hi_X3_readItem_3 hown hK hP 1 rfl rfl 5 (by decide) (hts (.fieldLink RX3 28 "TheLiningsInIt$Reader" "fault" "I") (List.mem_of_getElem? (i := 2) rfl)) (fun _ h9 => h9) rfl dX3_readItem_68 ?_
          refine lv_iconst (v := (-1)) hx hb dX3_readItem_71 (by decide) ?_
          refine lv_icmp_eq (tgt := 76) hx hb dX3_readItem_72 (by decide) (fun c_181 => ?_) (fun c_181 => ?_)
          · have fc_181 : q_178.toInt = (-1) := zf_eq c_181 rfl (by decide)
            refine lv_iinc (v := 1) (lv' := [(3, .int 1), (2, .int 4), (0, .ref rd), (1, .int slot)]) hx hb dX3_readItem_76 hl (k := 0) rfl (by decide) (by decide) rfl (fun ls hl => ?_)
            refine lv_goto (tgt := 20) hx hb dX3_readItem_79 (by decide) ?_
            refine lv_iload_n hx hb dX3_readItem_20 rfl (lv_at hl 0 rfl) ?_
            refine lv_iload_n hx hb dX3_readItem_21 rfl (lv_at hl 1 rfl) ?_
            refine zc_S (As := [.int 4]) (rest := [.int 1]) ⟨hx, hb, hml, hown, hts⟩ (c_R_numbersOf_4 l D cI cJ cZ cP cS po  ) (va_cwS 1 hts gX3_readItem_X3_numbersOf rfl rfl rfl dh_X3_numbersOf ⟨Nat.le_of_ble_eq_true rfl, Nat.le_of_ble_eq_true rfl⟩) hK hN (hZ.kept hS) rfl hl.1 rfl (Nat.le_of_ble_eq_true rfl) dX3_readItem_22 ⟨Nat.le_of_ble_eq_true rfl, Nat.le_of_ble_eq_true rfl⟩ (fun r_182 hr_182 => ?_)
            obtain rfl := hr_182
            refine lv_icmp_ge (tgt := 82) hx hb dX3_readItem_25 (by decide) (fun c_183 => ?_) (fun c_183 => ?_)
            · refine lv_iload_n hx hb dX3_readItem_82 rfl (lv_at hl 1 rfl) ?_
              refine lv_if_ne (tgt := 101) hx hb dX3_readItem_83 (by decide) (fun c_184 => ?_) (fun c_184 => ?_)
              · refine lv_iload_n hx hb dX3_readItem_101 rfl (lv_at hl 1 rfl) ?_
                refine lv_iconst (v := 3) hx hb dX3_readItem_102 (by decide) ?_
                refine lv_icmp_ne (tgt := 116) hx hb dX3_readItem_103 (by decide) (fun c_185 => ?_) (fun c_185 => ?_)
                · have e0 : slot.toNatClampNeg = slot.toInt.toNat + 0 := (by show (slot : Int32).toInt.toNat = _; omega)
                  have e1 : x_171.toNatClampNeg = slot.toInt.toNat + 1 := (by show (x_171 : Int32).toInt.toNat = _; omega)
                  have hI := zIn_a hn0 (by first | (right; decide) | (left; omega))
                  exact W.vret hx hb hr (fun t ht hW => ⟨⟨(q_177, q_178, rt, ru, (upd (upd fi slot.toNatClampNeg 4) x_171.toNatClampNeg r_175)), rfl, ⟨(show 0 ≤ q_177.toInt ∧ q_177.toInt ≤ 160 from hbq_177), (show (-1) ≤ q_178.toInt ∧ q_178.toInt ≤ 160 from hbq_178), (show 0 ≤ rt.toInt ∧ rt.toInt ≤ 40 from ⟨hy9, hy10⟩), (show 0 ≤ ru.toInt ∧ ru.toInt ≤ 8 from ⟨hy11, hy12⟩), (show q_177.toInt ≤ rz.toInt from by omega), (show (q_178.toInt = -1 → zIt (upd (upd fi slot.toNatClampNeg 4) x_171.toNatClampNeg r_175) slot.toInt.toNat) from by (intro h; have k3 : (4 : Int32).toInt = 4 := (by decide); exact zIt_mk (by simp only [upd]; rw [if_neg (by omega), if_pos (by omega)]) (by simp only [upd]; rw [if_pos (by omega)]) (rfl) (rfl) (by unfold zItv; refine ⟨?_, ?_, ?_, ?_, ?_, ?_, ?_, ?_, ?_, ?_, ?_⟩ <;> (intros; omega)))), (show (∀ j : Nat, j < slot.toInt.toNat → (upd (upd fi slot.toNatClampNeg 4) x_171.toNatClampNeg r_175) j = fi j) from by (intro j hj; simp only [upd]; rw [if_neg (by omega), if_neg (by omega)])), (show (q_178.toInt = (zItem fl rz.toInt rp.toInt rt.toInt ru.toInt).1 ∧ (q_178.toInt = -1 → q_177.toInt = (zItem fl rz.toInt rp.toInt rt.toInt ru.toInt).2.1 ∧ rt.toInt = (zItem fl rz.toInt rp.toInt rt.toInt ru.toInt).2.2.1 ∧ ru.toInt = (zItem fl rz.toInt rp.toInt rt.toInt ru.toInt).2.2.2)) from by (have z9 := hsr_1_1; rw [kc4] at z9; have hq : zFst fl rz.toInt rp.toInt zWds 10 = 4 ∧ ¬ ((4 : Int) = 3 ∧ ru.toInt = 8) := (by omega); have hl9 : (q_3 : Int32).toInt = rp.toInt + ((zWds ((4 : Int)).toNat).length : Nat) := (by omega); rw [zItem_w hq.1 (by decide) hq.2 hl9 hI]; dsimp only; exact ⟨by (first | rfl | omega), fun h => ⟨by (first | rfl | omega), by (show _ = (if (4 : Int) = 0 then _ else _); rw [if_neg (by decide)]), by (show _ = (if (4 : Int) = 3 then _ else _); rw [if_neg (by decide)])⟩⟩)), (show (q_178.toInt = -1 → (((upd (upd fi slot.toNatClampNeg 4) x_171.toNatClampNeg r_175) slot.toInt.toNat).toInt = 0 → rt.toInt = ((upd (upd fi slot.toNatClampNeg 4) x_171.toNatClampNeg r_175) (slot.toInt.toNat + 1)).toInt) ∧ (((upd (upd fi slot.toNatClampNeg 4) x_171.toNatClampNeg r_175) slot.toInt.toNat).toInt ≠ 0 → rt.toInt = rt.toInt) ∧ (((upd (upd fi slot.toNatClampNeg 4) x_171.toNatClampNeg r_175) slot.toInt.toNat).toInt = 3 → ru.toInt = ru.toInt + 1) ∧ (((upd (upd fi slot.toNatClampNeg 4) x_171.toNatClampNeg r_175) slot.toInt.toNat).toInt ≠ 3 → ru.toInt = ru.toInt)) from by (intro h; have g0 : (upd (upd fi slot.toNatClampNeg 4) x_171.toNatClampNeg r_175) slot.toInt.toNat = (4 : Int32) := (by simp only [upd]; rw [if_neg (by omega), if_pos (by omega)]); have g1 : (upd (upd fi slot.toNatClampNeg 4) x_171.toNatClampNeg r_175) (slot.toInt.toNat + 1) = (r_175 : Int32) := (by simp only [upd]; rw [if_pos (by omega)]); rw [g0, g1]; refine ⟨?_, ?_, ?_, ?_⟩ <;> (intro h9; first | rfl | omega | (exfalso; omega)))), (show (q_178.toInt = -1 → zSm (zDS (upd (upd fi slot.toNatClampNeg 4) x_171.toNatClampNeg r_175) slot.toInt.toNat) (zIm fl rz.toInt rp.toInt rt.toInt)) from by (intro h; have g0 : (upd (upd fi slot.toNatClampNeg 4) x_171.toNatClampNeg r_175) (slot.toInt.toNat + 0) = (4 : Int32) := (by simp only [upd]; rw [if_neg (by omega), if_pos (by omega)]); have g1 : (upd (upd fi slot.toNatClampNeg 4) x_171.toNatClampNeg r_175) (slot.toInt.toNat + 1) = (r_175 : Int32) := (by simp only [upd]; rw [if_pos (by omega)]); have z9 := hsr_1_1; rw [kc4] at z9; have hW : zIW fl rz.toInt rp.toInt = 4 := (by unfold zIW; omega); have hP9 : zIP fl rz.toInt rp.toInt = (q_3 : Int32).toInt := (by unfold zIP; rw [hW]; have hl9 : (q_3 : Int32).toInt = rp.toInt + ((zWds ((4 : Int)).toNat).length : Nat) := (by omega); exact hl9.symm); exact ⟨(show ((upd (upd fi slot.toNatClampNeg 4) x_171.toNatClampNeg r_175) (slot.toInt.toNat + 0)).toInt = zIW fl rz.toInt rp.toInt from by (rw [g0, hW]; omega)), (show ((upd (upd fi slot.toNatClampNeg 4) x_171.toNatClampNeg r_175) (slot.toInt.toNat + 1)).toInt = (zIn fl rz.toInt (zIP fl rz.toInt rp.toInt) rt.toInt (zIW fl rz.toInt rp.toInt)).2.2 from by (rw [g1, hP9, hW, hI])), fun hz => absurd (show ((upd (upd fi slot.toNatClampNeg 4) x_171.toNatClampNeg r_175) (slot.toInt.toNat + 0)).toInt = 2 ∨ ((upd (upd fi slot.toNatClampNeg 4) x_171.toNatClampNeg r_175) (slot.toInt.toNat + 0)).toInt = 3 ∨ ((upd (upd fi slot.toNatClampNeg 4) x_171.toNatClampNeg r_175) (slot.toInt.toNat + 0)).toInt = 8 from hz) (by rw [g0]; omega), fun hz => absurd (show ((upd (upd fi slot.toNatClampNeg 4) x_171.toNatClampNeg r_175) (slot.toInt.toNat + 0)).toInt = 3 from hz) (by rw [g0]; omega)⟩)), trivial⟩, zRet ht hP hD [1, 2, 0] (by decide) rfl⟩, hS.F ht⟩) hS.2.2 dX3_readItem_116
                · exact absurd c_185 (by decide)
              · exact absurd c_184 (by decide)
            · exact absurd c_183 (by decide)
          · have fc_181 : q_178.toInt ≠ (-1) := zf_ne c_181 rfl (by decide)
            have e0 : slot.toNatClampNeg = slot.toInt.toNat + 0 := (by show (slot : Int32).toInt.toNat = _; omega)
            have e1 : x_171.toNatClampNeg = slot.toInt.toNat + 1 := (by show (x_171 : Int32).toInt.toNat = _; omega)
            have hI := zIn_a hn0 (by first | (right; decide) | (left; omega))
            exact W.vret hx hb hr (fun t ht hW => ⟨⟨(q_177, q_178, rt, ru, (upd (upd fi slot.toNatClampNeg 4) x_171.toNatClampNeg r_175)), rfl, ⟨(show 0 ≤ q_177.toInt ∧ q_177.toInt ≤ 160 from hbq_177), (show (-1) ≤ q_178.toInt ∧ q_178.toInt ≤ 160 from hbq_178), (show 0 ≤ rt.toInt ∧ rt.toInt ≤ 40 from ⟨hy9, hy10⟩), (show 0 ≤ ru.toInt ∧ ru.toInt ≤ 8 from ⟨hy11, hy12⟩), (show q_177.toInt ≤ rz.toInt from by omega), (show (q_178.toInt = -1 → zIt (upd (upd fi slot.toNatClampNeg 4) x_171.toNatClampNeg r_175) slot.toInt.toNat) from by (intro h; exfalso; omega)), (show (∀ j : Nat, j < slot.toInt.toNat → (upd (upd fi slot.toNatClampNeg 4) x_171.toNatClampNeg r_175) j = fi j) from by (intro j hj; simp only [upd]; rw [if_neg (by omega), if_neg (by omega)])), (show (q_178.toInt = (zItem fl rz.toInt rp.toInt rt.toInt ru.toInt).1 ∧ (q_178.toInt = -1 → q_177.toInt = (zItem fl rz.toInt rp.toInt rt.toInt ru.toInt).2.1 ∧ rt.toInt = (zItem fl rz.toInt rp.toInt rt.toInt ru.toInt).2.2.1 ∧ ru.toInt = (zItem fl rz.toInt rp.toInt rt.toInt ru.toInt).2.2.2)) from by (have z9 := hsr_1_1; rw [kc4] at z9; have hq : zFst fl rz.toInt rp.toInt zWds 10 = 4 ∧ ¬ ((4 : Int) = 3 ∧ ru.toInt = 8) := (by omega); have hl9 : (q_3 : Int32).toInt = rp.toInt + ((zWds ((4 : Int)).toNat).length : Nat) := (by omega); rw [zItem_w hq.1 (by decide) hq.2 hl9 hI]; dsimp only; exact ⟨by (first | rfl | omega), fun h => ⟨by (first | rfl | omega), by (show _ = (if (4 : Int) = 0 then _ else _); rw [if_neg (by decide)]), by (show _ = (if (4 : Int) = 3 then _ else _); rw [if_neg (by decide)])⟩⟩)), (show (q_178.toInt = -1 → (((upd (upd fi slot.toNatClampNeg 4) x_171.toNatClampNeg r_175) slot.toInt.toNat).toInt = 0 → rt.toInt = ((upd (upd fi slot.toNatClampNeg 4) x_171.toNatClampNeg r_175) (slot.toInt.toNat + 1)).toInt) ∧ (((upd (upd fi slot.toNatClampNeg 4) x_171.toNatClampNeg r_175) slot.toInt.toNat).toInt ≠ 0 → rt.toInt = rt.toInt) ∧ (((upd (upd fi slot.toNatClampNeg 4) x_171.toNatClampNeg r_175) slot.toInt.toNat).toInt = 3 → ru.toInt = ru.toInt + 1) ∧ (((upd (upd fi slot.toNatClampNeg 4) x_171.toNatClampNeg r_175) slot.toInt.toNat).toInt ≠ 3 → ru.toInt = ru.toInt)) from by (intro h; exfalso; omega)), (show (q_178.toInt = -1 → zSm (zDS (upd (upd fi slot.toNatClampNeg 4) x_171.toNatClampNeg r_175) slot.toInt.toNat) (zIm fl rz.toInt rp.toInt rt.toInt)) from by (intro h; exfalso; omega)), trivial⟩, zRet ht hP hD [1, 2, 0] (by decide) rfl⟩, hS.F ht⟩) hS.2.2 dX3_readItem_75
    · have kc5 : (5 : Int32).toInt = 5 := by decide
      refine lv_aload_n hx hb dX3_readItem_11 rfl (lv_at hl 1 rfl) ?_
      refine va_get (D := D) (ci := 3) (v := .ref ri) (C := RX3) (T := TX3) (N := 8) hx hb hts hi_X3_readItem_3 hown hK hP 1 rfl rfl 0 (by decide) (hts (.fieldLink RX3 11 "TheLiningsInIt$Reader" "items" "[I") (List.mem_of_getElem? (i := 1) rfl)) (fun _ h9 => h9) rfl dX3_readItem_12 ?_
      refine lv_iload_n hx hb dX3_readItem_15 rfl (lv_at hl 2 rfl) ?_
      refine lv_iload_n hx hb dX3_readItem_16 rfl (lv_at hl 0 rfl) ?_
      refine va_iast hx hb hK hP hD hS 0 0 rfl rfl (zf_in (by omega) (by omega)) dX3_readItem_17 (fun H locs hP hD hS => ?_)
      have h9R := zRe (ws' := [(ri, .inl (cI, 132, .inl (upd fi slot.toNatClampNeg 5))), (rd, .inr (3, [.ref ri, .ref rl, .int rz, .int rc, .int q_3, .int q_4, .int rt, .int ru])), (rl, .inl (cI, 160, .inl fl))]) hP hD rfl
      clear hP hD
      obtain ⟨hP, hD⟩ := h9R
      refine lv_iconst (v := 0) hx hb dX3_readItem_18 (by decide) ?_
      refine lv_istore_n (lv' := [(3, .int 0), (2, .int 5), (0, .ref rd), (1, .int slot)]) hx hb dX3_readItem_19 rfl hl (by decide) rfl (fun ls hl => ?_)
      refine lv_iload_n hx hb dX3_readItem_20 rfl (lv_at hl 0 rfl) ?_
      refine lv_iload_n hx hb dX3_readItem_21 rfl (lv_at hl 1 rfl) ?_
      refine zc_S (As := [.int 5]) (rest := [.int 0]) ⟨hx, hb, hml, hown, hts⟩ (c_R_numbersOf_5 l D cI cJ cZ cP cS po  ) (va_cwS 1 hts gX3_readItem_X3_numbersOf rfl rfl rfl dh_X3_numbersOf ⟨Nat.le_of_ble_eq_true rfl, Nat.le_of_ble_eq_true rfl⟩) hK hN (hZ.kept hS) rfl hl.1 rfl (Nat.le_of_ble_eq_true rfl) dX3_readItem_22 ⟨Nat.le_of_ble_eq_true rfl, Nat.le_of_ble_eq_true rfl⟩ (fun r_186 hr_186 => ?_)
      obtain rfl := hr_186
      refine lv_icmp_ge (tgt := 82) hx hb dX3_readItem_25 (by decide) (fun c_187 => ?_) (fun c_187 => ?_)
      · exact absurd c_187 (by decide)
      · refine lv_aload_n hx hb dX3_readItem_28 rfl (lv_at hl 2 rfl) ?_
        refine lv_bipush (v := 32) hx hb dX3_readItem_29 (by decide) ?_
        have kc32 : (32 : Int32).toInt = 32 := by decide
        skip
        refine zw_Vv (As := [.int 32]) (rest := []) (wr := [(ri, .inl (cI, 132, .inl (upd fi slot.toNatClampNeg 5)))]) ⟨hx, hb, hml, hown, hts⟩ (c_F_R_expect l D cI cJ cZ cP cS po rd ri rl (rz) (rc) (q_3) (q_4) (rt) (ru) fl (32) hy0 hy1 hy2 hy3 hbq_3.1 hbq_3.2 (by omega) hbq_4.1 hbq_4.2 hy9 hy10 hy11 hy12 H.size) (cwV 1 hts gX3_readItem_X3_expect rfl rfl rfl ⟨rfl, dh_X3_expect⟩ ⟨Nat.le_of_ble_eq_true rfl, Nat.le_of_ble_eq_true rfl⟩) hK hN (hZ.kept hS) hP hD hS hA [1, 2] [0] rfl rfl (by decide) (by decide) (by decide) (va_recv (q := (RX3, TX3, 8)) hK hP (ci := 3) (q0 := 1) rfl rfl) rfl hl.1 rfl (Nat.le_of_ble_eq_true rfl) dX3_readItem_31 ⟨Nat.le_of_ble_eq_true rfl, Nat.le_of_ble_eq_true rfl⟩ (fun u_189 H locs hr_188 hP hD hS => ?_)
        obtain ⟨q_190, q_191⟩ := u_189
        try dsimp only at hr_188
        obtain ⟨hbq_190, hbq_191, hsr_188_0, hsr_188_1, hr_188⟩ := hr_188
        have h9R := zRe (ws' := [(ri, .inl (cI, 132, .inl (upd fi slot.toNatClampNeg 5))), (rd, .inr (3, [.ref ri, .ref rl, .int rz, .int rc, .int q_190, .int q_191, .int rt, .int ru])), (rl, .inl (cI, 160, .inl fl))]) hP hD rfl
        clear hP hD
        obtain ⟨hP, hD⟩ := h9R
        refine lv_aload_n hx hb dX3_readItem_34 rfl (lv_at hl 2 rfl) ?_
        refine va_get (D := D) (ci := 3) (v := .int q_191) (C := RX3) (T := TX3) (N := 8) hx hb hts hi_X3_readItem_3 hown hK hP 1 rfl rfl 5 (by decide) (hts (.fieldLink RX3 28 "TheLiningsInIt$Reader" "fault" "I") (List.mem_of_getElem? (i := 2) rfl)) (fun _ h9 => h9) rfl dX3_readItem_35 ?_
        refine lv_iconst (v := (-1)) hx hb dX3_readItem_38 (by decide) ?_
        refine lv_icmp_ne (tgt := 67) hx hb dX3_readItem_39 (by decide) (fun c_192 => ?_) (fun c_192 => ?_)
        · have fc_192 : q_191.toInt ≠ (-1) := zf_ne c_192 rfl (by decide)
          have hn0 : zN1 fl rz.toInt (q_3 : Int32).toInt (zLo 5 0) (zHi 5 0 rt.toInt) = ((q_3 : Int32).toInt, (q_3 : Int32).toInt, 0) := zN1_no (by omega)
          refine lv_aload_n hx hb dX3_readItem_67 rfl (lv_at hl 2 rfl) ?_
          refine va_get (D := D) (ci := 3) (v := .int q_191) (C := RX3) (T := TX3) (N := 8) hx hb hts hi_X3_readItem_3 hown hK hP 1 rfl rfl 5 (by decide) (hts (.fieldLink RX3 28 "TheLiningsInIt$Reader" "fault" "I") (List.mem_of_getElem? (i := 2) rfl)) (fun _ h9 => h9) rfl dX3_readItem_68 ?_
          refine lv_iconst (v := (-1)) hx hb dX3_readItem_71 (by decide) ?_
          refine lv_icmp_eq (tgt := 76) hx hb dX3_readItem_72 (by decide) (fun c_193 => ?_) (fun c_193 => ?_)
          · exfalso; have fc_193 : q_191.toInt = (-1) := zf_eq c_193 rfl (by decide); omega
          · have fc_193 : q_191.toInt ≠ (-1) := zf_ne c_193 rfl (by decide)
            have e0 : slot.toNatClampNeg = slot.toInt.toNat + 0 := (by show (slot : Int32).toInt.toNat = _; omega)
            have hI := zIn_a hn0 (by first | (right; decide) | (left; omega))
            exact W.vret hx hb hr (fun t ht hW => ⟨⟨(q_190, q_191, rt, ru, (upd fi slot.toNatClampNeg 5)), rfl, ⟨(show 0 ≤ q_190.toInt ∧ q_190.toInt ≤ 160 from hbq_190), (show (-1) ≤ q_191.toInt ∧ q_191.toInt ≤ 160 from hbq_191), (show 0 ≤ rt.toInt ∧ rt.toInt ≤ 40 from ⟨hy9, hy10⟩), (show 0 ≤ ru.toInt ∧ ru.toInt ≤ 8 from ⟨hy11, hy12⟩), (show q_190.toInt ≤ rz.toInt from by omega), (show (q_191.toInt = -1 → zIt (upd fi slot.toNatClampNeg 5) slot.toInt.toNat) from by (intro h; exfalso; omega)), (show (∀ j : Nat, j < slot.toInt.toNat → (upd fi slot.toNatClampNeg 5) j = fi j) from by (intro j hj; simp only [upd]; rw [if_neg (by omega)])), (show (q_191.toInt = (zItem fl rz.toInt rp.toInt rt.toInt ru.toInt).1 ∧ (q_191.toInt = -1 → q_190.toInt = (zItem fl rz.toInt rp.toInt rt.toInt ru.toInt).2.1 ∧ rt.toInt = (zItem fl rz.toInt rp.toInt rt.toInt ru.toInt).2.2.1 ∧ ru.toInt = (zItem fl rz.toInt rp.toInt rt.toInt ru.toInt).2.2.2)) from by (have z9 := hsr_1_1; rw [kc5] at z9; have hq : zFst fl rz.toInt rp.toInt zWds 10 = 5 ∧ ¬ ((5 : Int) = 3 ∧ ru.toInt = 8) := (by omega); have hl9 : (q_3 : Int32).toInt = rp.toInt + ((zWds ((5 : Int)).toNat).length : Nat) := (by omega); rw [zItem_w hq.1 (by decide) hq.2 hl9 hI]; dsimp only; exact ⟨by (first | rfl | omega), fun h => ⟨by (first | rfl | omega), by (show _ = (if (5 : Int) = 0 then _ else _); rw [if_neg (by decide)]), by (show _ = (if (5 : Int) = 3 then _ else _); rw [if_neg (by decide)])⟩⟩)), (show (q_191.toInt = -1 → (((upd fi slot.toNatClampNeg 5) slot.toInt.toNat).toInt = 0 → rt.toInt = ((upd fi slot.toNatClampNeg 5) (slot.toInt.toNat + 1)).toInt) ∧ (((upd fi slot.toNatClampNeg 5) slot.toInt.toNat).toInt ≠ 0 → rt.toInt = rt.toInt) ∧ (((upd fi slot.toNatClampNeg 5) slot.toInt.toNat).toInt = 3 → ru.toInt = ru.toInt + 1) ∧ (((upd fi slot.toNatClampNeg 5) slot.toInt.toNat).toInt ≠ 3 → ru.toInt = ru.toInt)) from by (intro h; exfalso; omega)), (show (q_191.toInt = -1 → zSm (zDS (upd fi slot.toNatClampNeg 5) slot.toInt.toNat) (zIm fl rz.toInt rp.toInt rt.toInt)) from by (intro h; exfalso; omega)), trivial⟩, zRet ht hP hD [1, 2, 0] (by decide) rfl⟩, hS.F ht⟩) hS.2.2 dX3_readItem_75
        · have fc_192 : q_191.toInt = (-1) := zf_eq c_192 rfl (by decide)
          refine lv_aload_n hx hb dX3_readItem_42 rfl (lv_at hl 2 rfl) ?_
          refine va_get (D := D) (ci := 3) (v := .ref ri) (C := RX3) (T := TX3) (N := 8) hx hb hts hi_X3_readItem_3 hown hK hP 1 rfl rfl 0 (by decide) (hts (.fieldLink RX3 11 "TheLiningsInIt$Reader" "items" "[I") (List.mem_of_getElem? (i := 1) rfl)) (fun _ h9 => h9) rfl dX3_readItem_43 ?_
          refine lv_iload_n hx hb dX3_readItem_46 rfl (lv_at hl 3 rfl) ?_
          refine lv_iconst (v := 1) hx hb dX3_readItem_47 (by decide) ?_
          refine lv_iadd hx hb dX3_readItem_48 ?_
          refine lv_topi (fun x_194 ex_194 => ?_)
          have qx_194 : x_194.toInt = slot.toInt + 1 := by rw [ex_194]; exact zf_add rfl (by decide) (by omega) (by omega)
          refine lv_iload_n hx hb dX3_readItem_49 rfl (lv_at hl 0 rfl) ?_
          refine lv_iadd hx hb dX3_readItem_50 ?_
          refine lv_topi (fun y_195 ey_195 => ?_)
          obtain rfl : x_194 = y_195 := (ey_195.trans (Int32.add_zero x_194)).symm
          refine lv_aload_n hx hb dX3_readItem_51 rfl (lv_at hl 2 rfl) ?_
          refine lv_iload_n hx hb dX3_readItem_52 rfl (lv_at hl 1 rfl) ?_
          refine lv_iload_n hx hb dX3_readItem_53 rfl (lv_at hl 0 rfl) ?_
          refine zc_S (As := [.int 5, .int 0]) (rest := [.ref rd, .int x_194, .ref ri]) ⟨hx, hb, hml, hown, hts⟩ (c_R_leastOf_5_0 l D cI cJ cZ cP cS po  ) (va_cwS 2 hts gX3_readItem_X3_leastOf rfl rfl rfl dh_X3_leastOf ⟨Nat.le_of_ble_eq_true rfl, Nat.le_of_ble_eq_true rfl⟩) hK hN (hZ.kept hS) rfl hl.1 rfl (Nat.le_of_ble_eq_true rfl) dX3_readItem_54 ⟨Nat.le_of_ble_eq_true rfl, Nat.le_of_ble_eq_true rfl⟩ (fun r_196 hr_196 => ?_)
          obtain rfl := hr_196
          refine lv_aload_n hx hb dX3_readItem_57 rfl (lv_at hl 2 rfl) ?_
          refine lv_iload_n hx hb dX3_readItem_58 rfl (lv_at hl 1 rfl) ?_
          refine lv_iload_n hx hb dX3_readItem_59 rfl (lv_at hl 0 rfl) ?_
          refine zc_V (As := [.int 5, .int 0]) (rest := [.int 0, .ref rd, .int x_194, .ref ri]) ⟨hx, hb, hml, hown, hts⟩ (c_R_mostOf_5_0 l D cI cJ cZ cP cS po rd ri rl (rz) (rc) (q_190) (q_191) (rt) (ru) hy0 hy1 hy2 hy3 hbq_190.1 hbq_190.2 (by omega) hbq_191.1 hbq_191.2 hy9 hy10 hy11 hy12) (cwV 2 hts gX3_readItem_X3_mostOf rfl rfl rfl ⟨rfl, dh_X3_mostOf⟩ ⟨Nat.le_of_ble_eq_true rfl, Nat.le_of_ble_eq_true rfl⟩) hK hN (hZ.kept hS) hP (hP.sub [1] rfl) (va_recv (q := (RX3, TX3, 8)) hK hP (ci := 3) (q0 := 1) rfl rfl) rfl hl.1 rfl (Nat.le_of_ble_eq_true rfl) dX3_readItem_60 ⟨Nat.le_of_ble_eq_true rfl, Nat.le_of_ble_eq_true rfl⟩ (fun r_197 hr_197 => ?_)
          obtain rfl := hr_197
          have kc0 : (0 : Int32).toInt = 0 := by decide
          have kc300 : (300 : Int32).toInt = 300 := by decide
          skip
          refine zw_V (As := [.int 0, .int 300]) (rest := [.int x_194, .ref ri]) (wr := [(ri, .inl (cI, 132, .inl (upd fi slot.toNatClampNeg 5)))]) ⟨hx, hb, hml, hown, hts⟩ (c_F_R_readNumber l D cI cJ cZ cP cS po rd ri rl (rz) (rc) (q_190) (q_191) (rt) (ru) fl (0) (300) hy0 hy1 hy2 hy3 hbq_190.1 hbq_190.2 (by omega) hbq_191.1 hbq_191.2 hy9 hy10 hy11 hy12 H.size) (cwV 2 hts gX3_readItem_X3_readNumber rfl rfl rfl ⟨rfl, dh_X3_readNumber⟩ ⟨Nat.le_of_ble_eq_true rfl, Nat.le_of_ble_eq_true rfl⟩) hK hN (hZ.kept hS) hP hD hS hA [1, 2] [0] rfl rfl (by decide) (by decide) (by decide) (va_recv (q := (RX3, TX3, 8)) hK hP (ci := 3) (q0 := 1) rfl rfl) rfl hl.1 rfl (Nat.le_of_ble_eq_true rfl) dX3_readItem_63 ⟨Nat.le_of_ble_eq_true rfl, Nat.le_of_ble_eq_true rfl⟩ (fun r_198 u_199 H locs hr_198 hP hD hS => ?_)
          obtain ⟨q_200, q_201⟩ := u_199
          try dsimp only at hr_198
          obtain ⟨hbq_200, hbq_201, hsr_198_0, hsr_198_1, hsr_198_2, hsr_198_3, hr_198⟩ := hr_198
          have h9R := zRe (ws' := [(ri, .inl (cI, 132, .inl (upd fi slot.toNatClampNeg 5))), (rd, .inr (3, [.ref ri, .ref rl, .int rz, .int rc, .int q_200, .int q_201, .int rt, .int ru])), (rl, .inl (cI, 160, .inl fl))]) hP hD rfl
          clear hP hD
          obtain ⟨hP, hD⟩ := h9R
          obtain ⟨g_202, g_203⟩ := hr_198
          refine va_iast hx hb hK hP hD hS 0 0 rfl rfl (zf_in (by omega) (by omega)) dX3_readItem_66 (fun H locs hP hD hS => ?_)
          have h9R := zRe (ws' := [(ri, .inl (cI, 132, .inl (upd (upd fi slot.toNatClampNeg 5) x_194.toNatClampNeg r_198))), (rd, .inr (3, [.ref ri, .ref rl, .int rz, .int rc, .int q_200, .int q_201, .int rt, .int ru])), (rl, .inl (cI, 160, .inl fl))]) hP hD rfl
          clear hP hD
          obtain ⟨hP, hD⟩ := h9R
          have hn0 : zN1 fl rz.toInt (q_3 : Int32).toInt (zLo 5 0) (zHi 5 0 rt.toInt) = ((q_201 : Int32).toInt, (q_200 : Int32).toInt, r_198.toInt) := zN1_yes (p1 := (q_190 : Int32).toInt) (lo2 := ((0 : Int32)).toInt) (hi2 := ((300 : Int32)).toInt) (by omega) (by omega) hsr_198_1 hsr_198_2 (by first | decide | (show (0 : Int) = _; omega)) (by first | decide | (show (300 : Int) = _; decide) | (show rt.toInt - 1 = _; omega) | (show rt.toInt = _; omega)) (by omega)
          refine lv_aload_n hx hb dX3_readItem_67 rfl (lv_at hl 2 rfl) ?_
          refine va_get (D := D) (ci := 3) (v := .int q_201) (C := RX3) (T := TX3) (N := 8) hx hb hts hi_X3_readItem_3 hown hK hP 1 rfl rfl 5 (by decide) (hts (.fieldLink RX3 28 "TheLiningsInIt$Reader" "fault" "I") (List.mem_of_getElem? (i := 2) rfl)) (fun _ h9 => h9) rfl dX3_readItem_68 ?_
          refine lv_iconst (v := (-1)) hx hb dX3_readItem_71 (by decide) ?_
          refine lv_icmp_eq (tgt := 76) hx hb dX3_readItem_72 (by decide) (fun c_204 => ?_) (fun c_204 => ?_)
          · have fc_204 : q_201.toInt = (-1) := zf_eq c_204 rfl (by decide)
            refine lv_iinc (v := 1) (lv' := [(3, .int 1), (2, .int 5), (0, .ref rd), (1, .int slot)]) hx hb dX3_readItem_76 hl (k := 0) rfl (by decide) (by decide) rfl (fun ls hl => ?_)
            refine lv_goto (tgt := 20) hx hb dX3_readItem_79 (by decide) ?_
            refine lv_iload_n hx hb dX3_readItem_20 rfl (lv_at hl 0 rfl) ?_
            refine lv_iload_n hx hb dX3_readItem_21 rfl (lv_at hl 1 rfl) ?_
            refine zc_S (As := [.int 5]) (rest := [.int 1]) ⟨hx, hb, hml, hown, hts⟩ (c_R_numbersOf_5 l D cI cJ cZ cP cS po  ) (va_cwS 1 hts gX3_readItem_X3_numbersOf rfl rfl rfl dh_X3_numbersOf ⟨Nat.le_of_ble_eq_true rfl, Nat.le_of_ble_eq_true rfl⟩) hK hN (hZ.kept hS) rfl hl.1 rfl (Nat.le_of_ble_eq_true rfl) dX3_readItem_22 ⟨Nat.le_of_ble_eq_true rfl, Nat.le_of_ble_eq_true rfl⟩ (fun r_205 hr_205 => ?_)
            obtain rfl := hr_205
            refine lv_icmp_ge (tgt := 82) hx hb dX3_readItem_25 (by decide) (fun c_206 => ?_) (fun c_206 => ?_)
            · refine lv_iload_n hx hb dX3_readItem_82 rfl (lv_at hl 1 rfl) ?_
              refine lv_if_ne (tgt := 101) hx hb dX3_readItem_83 (by decide) (fun c_207 => ?_) (fun c_207 => ?_)
              · refine lv_iload_n hx hb dX3_readItem_101 rfl (lv_at hl 1 rfl) ?_
                refine lv_iconst (v := 3) hx hb dX3_readItem_102 (by decide) ?_
                refine lv_icmp_ne (tgt := 116) hx hb dX3_readItem_103 (by decide) (fun c_208 => ?_) (fun c_208 => ?_)
                · have e0 : slot.toNatClampNeg = slot.toInt.toNat + 0 := (by show (slot : Int32).toInt.toNat = _; omega)
                  have e1 : x_194.toNatClampNeg = slot.toInt.toNat + 1 := (by show (x_194 : Int32).toInt.toNat = _; omega)
                  have hI := zIn_a hn0 (by first | (right; decide) | (left; omega))
                  exact W.vret hx hb hr (fun t ht hW => ⟨⟨(q_200, q_201, rt, ru, (upd (upd fi slot.toNatClampNeg 5) x_194.toNatClampNeg r_198)), rfl, ⟨(show 0 ≤ q_200.toInt ∧ q_200.toInt ≤ 160 from hbq_200), (show (-1) ≤ q_201.toInt ∧ q_201.toInt ≤ 160 from hbq_201), (show 0 ≤ rt.toInt ∧ rt.toInt ≤ 40 from ⟨hy9, hy10⟩), (show 0 ≤ ru.toInt ∧ ru.toInt ≤ 8 from ⟨hy11, hy12⟩), (show q_200.toInt ≤ rz.toInt from by omega), (show (q_201.toInt = -1 → zIt (upd (upd fi slot.toNatClampNeg 5) x_194.toNatClampNeg r_198) slot.toInt.toNat) from by (intro h; have k3 : (5 : Int32).toInt = 5 := (by decide); exact zIt_mk (by simp only [upd]; rw [if_neg (by omega), if_pos (by omega)]) (by simp only [upd]; rw [if_pos (by omega)]) (rfl) (rfl) (by unfold zItv; refine ⟨?_, ?_, ?_, ?_, ?_, ?_, ?_, ?_, ?_, ?_, ?_⟩ <;> (intros; omega)))), (show (∀ j : Nat, j < slot.toInt.toNat → (upd (upd fi slot.toNatClampNeg 5) x_194.toNatClampNeg r_198) j = fi j) from by (intro j hj; simp only [upd]; rw [if_neg (by omega), if_neg (by omega)])), (show (q_201.toInt = (zItem fl rz.toInt rp.toInt rt.toInt ru.toInt).1 ∧ (q_201.toInt = -1 → q_200.toInt = (zItem fl rz.toInt rp.toInt rt.toInt ru.toInt).2.1 ∧ rt.toInt = (zItem fl rz.toInt rp.toInt rt.toInt ru.toInt).2.2.1 ∧ ru.toInt = (zItem fl rz.toInt rp.toInt rt.toInt ru.toInt).2.2.2)) from by (have z9 := hsr_1_1; rw [kc5] at z9; have hq : zFst fl rz.toInt rp.toInt zWds 10 = 5 ∧ ¬ ((5 : Int) = 3 ∧ ru.toInt = 8) := (by omega); have hl9 : (q_3 : Int32).toInt = rp.toInt + ((zWds ((5 : Int)).toNat).length : Nat) := (by omega); rw [zItem_w hq.1 (by decide) hq.2 hl9 hI]; dsimp only; exact ⟨by (first | rfl | omega), fun h => ⟨by (first | rfl | omega), by (show _ = (if (5 : Int) = 0 then _ else _); rw [if_neg (by decide)]), by (show _ = (if (5 : Int) = 3 then _ else _); rw [if_neg (by decide)])⟩⟩)), (show (q_201.toInt = -1 → (((upd (upd fi slot.toNatClampNeg 5) x_194.toNatClampNeg r_198) slot.toInt.toNat).toInt = 0 → rt.toInt = ((upd (upd fi slot.toNatClampNeg 5) x_194.toNatClampNeg r_198) (slot.toInt.toNat + 1)).toInt) ∧ (((upd (upd fi slot.toNatClampNeg 5) x_194.toNatClampNeg r_198) slot.toInt.toNat).toInt ≠ 0 → rt.toInt = rt.toInt) ∧ (((upd (upd fi slot.toNatClampNeg 5) x_194.toNatClampNeg r_198) slot.toInt.toNat).toInt = 3 → ru.toInt = ru.toInt + 1) ∧ (((upd (upd fi slot.toNatClampNeg 5) x_194.toNatClampNeg r_198) slot.toInt.toNat).toInt ≠ 3 → ru.toInt = ru.toInt)) from by (intro h; have g0 : (upd (upd fi slot.toNatClampNeg 5) x_194.toNatClampNeg r_198) slot.toInt.toNat = (5 : Int32) := (by simp only [upd]; rw [if_neg (by omega), if_pos (by omega)]); have g1 : (upd (upd fi slot.toNatClampNeg 5) x_194.toNatClampNeg r_198) (slot.toInt.toNat + 1) = (r_198 : Int32) := (by simp only [upd]; rw [if_pos (by omega)]); rw [g0, g1]; refine ⟨?_, ?_, ?_, ?_⟩ <;> (intro h9; first | rfl | omega | (exfalso; omega)))), (show (q_201.toInt = -1 → zSm (zDS (upd (upd fi slot.toNatClampNeg 5) x_194.toNatClampNeg r_198) slot.toInt.toNat) (zIm fl rz.toInt rp.toInt rt.toInt)) from by (intro h; have g0 : (upd (upd fi slot.toNatClampNeg 5) x_194.toNatClampNeg r_198) (slot.toInt.toNat + 0) = (5 : Int32) := (by simp only [upd]; rw [if_neg (by omega), if_pos (by omega)]); have g1 : (upd (upd fi slot.toNatClampNeg 5) x_194.toNatClampNeg r_198) (slot.toInt.toNat + 1) = (r_198 : Int32) := (by simp only [upd]; rw [if_pos (by omega)]); have z9 := hsr_1_1; rw [kc5] at z9; have hW : zIW fl rz.toInt rp.toInt = 5 := (by unfold zIW; omega); have hP9 : zIP fl rz.toInt rp.toInt = (q_3 : Int32).toInt := (by unfold zIP; rw [hW]; have hl9 : (q_3 : Int32).toInt = rp.toInt + ((zWds ((5 : Int)).toNat).length : Nat) := (by omega); exact hl9.symm); exact ⟨(show ((upd (upd fi slot.toNatClampNeg 5) x_194.toNatClampNeg r_198) (slot.toInt.toNat + 0)).toInt = zIW fl rz.toInt rp.toInt from by (rw [g0, hW]; omega)), (show ((upd (upd fi slot.toNatClampNeg 5) x_194.toNatClampNeg r_198) (slot.toInt.toNat + 1)).toInt = (zIn fl rz.toInt (zIP fl rz.toInt rp.toInt) rt.toInt (zIW fl rz.toInt rp.toInt)).2.2 from by (rw [g1, hP9, hW, hI])), fun hz => absurd (show ((upd (upd fi slot.toNatClampNeg 5) x_194.toNatClampNeg r_198) (slot.toInt.toNat + 0)).toInt = 2 ∨ ((upd (upd fi slot.toNatClampNeg 5) x_194.toNatClampNeg r_198) (slot.toInt.toNat + 0)).toInt = 3 ∨ ((upd (upd fi slot.toNatClampNeg 5) x_194.toNatClampNeg r_198) (slot.toInt.toNat + 0)).toInt = 8 from hz) (by rw [g0]; omega), fun hz => absurd (show ((upd (upd fi slot.toNatClampNeg 5) x_194.toNatClampNeg r_198) (slot.toInt.toNat + 0)).toInt = 3 from hz) (by rw [g0]; omega)⟩)), trivial⟩, zRet ht hP hD [1, 2, 0] (by decide) rfl⟩, hS.F ht⟩) hS.2.2 dX3_readItem_116
                · exact absurd c_208 (by decide)
              · exact absurd c_207 (by decide)
            · exact absurd c_206 (by decide)
          · have fc_204 : q_201.toInt ≠ (-1) := zf_ne c_204 rfl (by decide)
            have e0 : slot.toNatClampNeg = slot.toInt.toNat + 0 := (by show (slot : Int32).toInt.toNat = _; omega)
            have e1 : x_194.toNatClampNeg = slot.toInt.toNat + 1 := (by show (x_194 : Int32).toInt.toNat = _; omega)
            have hI := zIn_a hn0 (by first | (right; decide) | (left; omega))
            exact W.vret hx hb hr (fun t ht hW => ⟨⟨(q_200, q_201, rt, ru, (upd (upd fi slot.toNatClampNeg 5) x_194.toNatClampNeg r_198)), rfl, ⟨(show 0 ≤ q_200.toInt ∧ q_200.toInt ≤ 160 from hbq_200), (show (-1) ≤ q_201.toInt ∧ q_201.toInt ≤ 160 from hbq_201), (show 0 ≤ rt.toInt ∧ rt.toInt ≤ 40 from ⟨hy9, hy10⟩), (show 0 ≤ ru.toInt ∧ ru.toInt ≤ 8 from ⟨hy11, hy12⟩), (show q_200.toInt ≤ rz.toInt from by omega), (show (q_201.toInt = -1 → zIt (upd (upd fi slot.toNatClampNeg 5) x_194.toNatClampNeg r_198) slot.toInt.toNat) from by (intro h; exfalso; omega)), (show (∀ j : Nat, j < slot.toInt.toNat → (upd (upd fi slot.toNatClampNeg 5) x_194.toNatClampNeg r_198) j = fi j) from by (intro j hj; simp only [upd]; rw [if_neg (by omega), if_neg (by omega)])), (show (q_201.toInt = (zItem fl rz.toInt rp.toInt rt.toInt ru.toInt).1 ∧ (q_201.toInt = -1 → q_200.toInt = (zItem fl rz.toInt rp.toInt rt.toInt ru.toInt).2.1 ∧ rt.toInt = (zItem fl rz.toInt rp.toInt rt.toInt ru.toInt).2.2.1 ∧ ru.toInt = (zItem fl rz.toInt rp.toInt rt.toInt ru.toInt).2.2.2)) from by (have z9 := hsr_1_1; rw [kc5] at z9; have hq : zFst fl rz.toInt rp.toInt zWds 10 = 5 ∧ ¬ ((5 : Int) = 3 ∧ ru.toInt = 8) := (by omega); have hl9 : (q_3 : Int32).toInt = rp.toInt + ((zWds ((5 : Int)).toNat).length : Nat) := (by omega); rw [zItem_w hq.1 (by decide) hq.2 hl9 hI]; dsimp only; exact ⟨by (first | rfl | omega), fun h => ⟨by (first | rfl | omega), by (show _ = (if (5 : Int) = 0 then _ else _); rw [if_neg (by decide)]), by (show _ = (if (5 : Int) = 3 then _ else _); rw [if_neg (by decide)])⟩⟩)), (show (q_201.toInt = -1 → (((upd (upd fi slot.toNatClampNeg 5) x_194.toNatClampNeg r_198) slot.toInt.toNat).toInt = 0 → rt.toInt = ((upd (upd fi slot.toNatClampNeg 5) x_194.toNatClampNeg r_198) (slot.toInt.toNat + 1)).toInt) ∧ (((upd (upd fi slot.toNatClampNeg 5) x_194.toNatClampNeg r_198) slot.toInt.toNat).toInt ≠ 0 → rt.toInt = rt.toInt) ∧ (((upd (upd fi slot.toNatClampNeg 5) x_194.toNatClampNeg r_198) slot.toInt.toNat).toInt = 3 → ru.toInt = ru.toInt + 1) ∧ (((upd (upd fi slot.toNatClampNeg 5) x_194.toNatClampNeg r_198) slot.toInt.toNat).toInt ≠ 3 → ru.toInt = ru.toInt)) from by (intro h; exfalso; omega)), (show (q_201.toInt = -1 → zSm (zDS (upd (upd fi slot.toNatClampNeg 5) x_194.toNatClampNeg r_198) slot.toInt.toNat) (zIm fl rz.toInt rp.toInt rt.toInt)) from by (intro h; exfalso; omega)), trivial⟩, zRet ht hP hD [1, 2, 0] (by decide) rfl⟩, hS.F ht⟩) hS.2.2 dX3_readItem_75
    · have kc6 : (6 : Int32).toInt = 6 := by decide
      refine lv_aload_n hx hb dX3_readItem_11 rfl (lv_at hl 1 rfl) ?_
      refine va_get (D := D) (ci := 3) (v := .ref ri) (C := RX3) (T := TX3) (N := 8) hx hb hts hi_X3_readItem_3 hown hK hP 1 rfl rfl 0 (by decide) (hts (.fieldLink RX3 11 "TheLiningsInIt$Reader" "items" "[I") (List.mem_of_getElem? (i := 1) rfl)) (fun _ h9 => h9) rfl dX3_readItem_12 ?_
      refine lv_iload_n hx hb dX3_readItem_15 rfl (lv_at hl 2 rfl) ?_
      refine lv_iload_n hx hb dX3_readItem_16 rfl (lv_at hl 0 rfl) ?_
      refine va_iast hx hb hK hP hD hS 0 0 rfl rfl (zf_in (by omega) (by omega)) dX3_readItem_17 (fun H locs hP hD hS => ?_)
      have h9R := zRe (ws' := [(ri, .inl (cI, 132, .inl (upd fi slot.toNatClampNeg 6))), (rd, .inr (3, [.ref ri, .ref rl, .int rz, .int rc, .int q_3, .int q_4, .int rt, .int ru])), (rl, .inl (cI, 160, .inl fl))]) hP hD rfl
      clear hP hD
      obtain ⟨hP, hD⟩ := h9R
      refine lv_iconst (v := 0) hx hb dX3_readItem_18 (by decide) ?_
      refine lv_istore_n (lv' := [(3, .int 0), (2, .int 6), (0, .ref rd), (1, .int slot)]) hx hb dX3_readItem_19 rfl hl (by decide) rfl (fun ls hl => ?_)
      refine lv_iload_n hx hb dX3_readItem_20 rfl (lv_at hl 0 rfl) ?_
      refine lv_iload_n hx hb dX3_readItem_21 rfl (lv_at hl 1 rfl) ?_
      refine zc_S (As := [.int 6]) (rest := [.int 0]) ⟨hx, hb, hml, hown, hts⟩ (c_R_numbersOf_6 l D cI cJ cZ cP cS po  ) (va_cwS 1 hts gX3_readItem_X3_numbersOf rfl rfl rfl dh_X3_numbersOf ⟨Nat.le_of_ble_eq_true rfl, Nat.le_of_ble_eq_true rfl⟩) hK hN (hZ.kept hS) rfl hl.1 rfl (Nat.le_of_ble_eq_true rfl) dX3_readItem_22 ⟨Nat.le_of_ble_eq_true rfl, Nat.le_of_ble_eq_true rfl⟩ (fun r_209 hr_209 => ?_)
      obtain rfl := hr_209
      refine lv_icmp_ge (tgt := 82) hx hb dX3_readItem_25 (by decide) (fun c_210 => ?_) (fun c_210 => ?_)
      · exact absurd c_210 (by decide)
      · refine lv_aload_n hx hb dX3_readItem_28 rfl (lv_at hl 2 rfl) ?_
        refine lv_bipush (v := 32) hx hb dX3_readItem_29 (by decide) ?_
        have kc32 : (32 : Int32).toInt = 32 := by decide
        skip
        refine zw_Vv (As := [.int 32]) (rest := []) (wr := [(ri, .inl (cI, 132, .inl (upd fi slot.toNatClampNeg 6)))]) ⟨hx, hb, hml, hown, hts⟩ (c_F_R_expect l D cI cJ cZ cP cS po rd ri rl (rz) (rc) (q_3) (q_4) (rt) (ru) fl (32) hy0 hy1 hy2 hy3 hbq_3.1 hbq_3.2 (by omega) hbq_4.1 hbq_4.2 hy9 hy10 hy11 hy12 H.size) (cwV 1 hts gX3_readItem_X3_expect rfl rfl rfl ⟨rfl, dh_X3_expect⟩ ⟨Nat.le_of_ble_eq_true rfl, Nat.le_of_ble_eq_true rfl⟩) hK hN (hZ.kept hS) hP hD hS hA [1, 2] [0] rfl rfl (by decide) (by decide) (by decide) (va_recv (q := (RX3, TX3, 8)) hK hP (ci := 3) (q0 := 1) rfl rfl) rfl hl.1 rfl (Nat.le_of_ble_eq_true rfl) dX3_readItem_31 ⟨Nat.le_of_ble_eq_true rfl, Nat.le_of_ble_eq_true rfl⟩ (fun u_212 H locs hr_211 hP hD hS => ?_)
        obtain ⟨q_213, q_214⟩ := u_212
        try dsimp only at hr_211
        obtain ⟨hbq_213, hbq_214, hsr_211_0, hsr_211_1, hr_211⟩ := hr_211
        have h9R := zRe (ws' := [(ri, .inl (cI, 132, .inl (upd fi slot.toNatClampNeg 6))), (rd, .inr (3, [.ref ri, .ref rl, .int rz, .int rc, .int q_213, .int q_214, .int rt, .int ru])), (rl, .inl (cI, 160, .inl fl))]) hP hD rfl
        clear hP hD
        obtain ⟨hP, hD⟩ := h9R
        refine lv_aload_n hx hb dX3_readItem_34 rfl (lv_at hl 2 rfl) ?_
        refine va_get (D := D) (ci := 3) (v := .int q_214) (C := RX3) (T := TX3) (N := 8) hx hb hts hi_X3_readItem_3 hown hK hP 1 rfl rfl 5 (by decide) (hts (.fieldLink RX3 28 "TheLiningsInIt$Reader" "fault" "I") (List.mem_of_getElem? (i := 2) rfl)) (fun _ h9 => h9) rfl dX3_readItem_35 ?_
        refine lv_iconst (v := (-1)) hx hb dX3_readItem_38 (by decide) ?_
        refine lv_icmp_ne (tgt := 67) hx hb dX3_readItem_39 (by decide) (fun c_215 => ?_) (fun c_215 => ?_)
        · have fc_215 : q_214.toInt ≠ (-1) := zf_ne c_215 rfl (by decide)
          have hn0 : zN1 fl rz.toInt (q_3 : Int32).toInt (zLo 6 0) (zHi 6 0 rt.toInt) = ((q_3 : Int32).toInt, (q_3 : Int32).toInt, 0) := zN1_no (by omega)
          refine lv_aload_n hx hb dX3_readItem_67 rfl (lv_at hl 2 rfl) ?_
          refine va_get (D := D) (ci := 3) (v := .int q_214) (C := RX3) (T := TX3) (N := 8) hx hb hts hi_X3_readItem_3 hown hK hP 1 rfl rfl 5 (by decide) (hts (.fieldLink RX3 28 "TheLiningsInIt$Reader" "fault" "I") (List.mem_of_getElem? (i := 2) rfl)) (fun _ h9 => h9) rfl dX3_readItem_68 ?_
          refine lv_iconst (v := (-1)) hx hb dX3_readItem_71 (by decide) ?_
          refine lv_icmp_eq (tgt := 76) hx hb dX3_readItem_72 (by decide) (fun c_216 => ?_) (fun c_216 => ?_)
          · exfalso; have fc_216 : q_214.toInt = (-1) := zf_eq c_216 rfl (by decide); omega
          · have fc_216 : q_214.toInt ≠ (-1) := zf_ne c_216 rfl (by decide)
            have e0 : slot.toNatClampNeg = slot.toInt.toNat + 0 := (by show (slot : Int32).toInt.toNat = _; omega)
            have hI := zIn_a hn0 (by first | (right; decide) | (left; omega))
            exact W.vret hx hb hr (fun t ht hW => ⟨⟨(q_213, q_214, rt, ru, (upd fi slot.toNatClampNeg 6)), rfl, ⟨(show 0 ≤ q_213.toInt ∧ q_213.toInt ≤ 160 from hbq_213), (show (-1) ≤ q_214.toInt ∧ q_214.toInt ≤ 160 from hbq_214), (show 0 ≤ rt.toInt ∧ rt.toInt ≤ 40 from ⟨hy9, hy10⟩), (show 0 ≤ ru.toInt ∧ ru.toInt ≤ 8 from ⟨hy11, hy12⟩), (show q_213.toInt ≤ rz.toInt from by omega), (show (q_214.toInt = -1 → zIt (upd fi slot.toNatClampNeg 6) slot.toInt.toNat) from by (intro h; exfalso; omega)), (show (∀ j : Nat, j < slot.toInt.toNat → (upd fi slot.toNatClampNeg 6) j = fi j) from by (intro j hj; simp only [upd]; rw [if_neg (by omega)])), (show (q_214.toInt = (zItem fl rz.toInt rp.toInt rt.toInt ru.toInt).1 ∧ (q_214.toInt = -1 → q_213.toInt = (zItem fl rz.toInt rp.toInt rt.toInt ru.toInt).2.1 ∧ rt.toInt = (zItem fl rz.toInt rp.toInt rt.toInt ru.toInt).2.2.1 ∧ ru.toInt = (zItem fl rz.toInt rp.toInt rt.toInt ru.toInt).2.2.2)) from by (have z9 := hsr_1_1; rw [kc6] at z9; have hq : zFst fl rz.toInt rp.toInt zWds 10 = 6 ∧ ¬ ((6 : Int) = 3 ∧ ru.toInt = 8) := (by omega); have hl9 : (q_3 : Int32).toInt = rp.toInt + ((zWds ((6 : Int)).toNat).length : Nat) := (by omega); rw [zItem_w hq.1 (by decide) hq.2 hl9 hI]; dsimp only; exact ⟨by (first | rfl | omega), fun h => ⟨by (first | rfl | omega), by (show _ = (if (6 : Int) = 0 then _ else _); rw [if_neg (by decide)]), by (show _ = (if (6 : Int) = 3 then _ else _); rw [if_neg (by decide)])⟩⟩)), (show (q_214.toInt = -1 → (((upd fi slot.toNatClampNeg 6) slot.toInt.toNat).toInt = 0 → rt.toInt = ((upd fi slot.toNatClampNeg 6) (slot.toInt.toNat + 1)).toInt) ∧ (((upd fi slot.toNatClampNeg 6) slot.toInt.toNat).toInt ≠ 0 → rt.toInt = rt.toInt) ∧ (((upd fi slot.toNatClampNeg 6) slot.toInt.toNat).toInt = 3 → ru.toInt = ru.toInt + 1) ∧ (((upd fi slot.toNatClampNeg 6) slot.toInt.toNat).toInt ≠ 3 → ru.toInt = ru.toInt)) from by (intro h; exfalso; omega)), (show (q_214.toInt = -1 → zSm (zDS (upd fi slot.toNatClampNeg 6) slot.toInt.toNat) (zIm fl rz.toInt rp.toInt rt.toInt)) from by (intro h; exfalso; omega)), trivial⟩, zRet ht hP hD [1, 2, 0] (by decide) rfl⟩, hS.F ht⟩) hS.2.2 dX3_readItem_75
        · have fc_215 : q_214.toInt = (-1) := zf_eq c_215 rfl (by decide)
          refine lv_aload_n hx hb dX3_readItem_42 rfl (lv_at hl 2 rfl) ?_
          refine va_get (D := D) (ci := 3) (v := .ref ri) (C := RX3) (T := TX3) (N := 8) hx hb hts hi_X3_readItem_3 hown hK hP 1 rfl rfl 0 (by decide) (hts (.fieldLink RX3 11 "TheLiningsInIt$Reader" "items" "[I") (List.mem_of_getElem? (i := 1) rfl)) (fun _ h9 => h9) rfl dX3_readItem_43 ?_
          refine lv_iload_n hx hb dX3_readItem_46 rfl (lv_at hl 3 rfl) ?_
          refine lv_iconst (v := 1) hx hb dX3_readItem_47 (by decide) ?_
          refine lv_iadd hx hb dX3_readItem_48 ?_
          refine lv_topi (fun x_217 ex_217 => ?_)
          have qx_217 : x_217.toInt = slot.toInt + 1 := by rw [ex_217]; exact zf_add rfl (by decide) (by omega) (by omega)
          refine lv_iload_n hx hb dX3_readItem_49 rfl (lv_at hl 0 rfl) ?_
          refine lv_iadd hx hb dX3_readItem_50 ?_
          refine lv_topi (fun y_218 ey_218 => ?_)
          obtain rfl : x_217 = y_218 := (ey_218.trans (Int32.add_zero x_217)).symm
          refine lv_aload_n hx hb dX3_readItem_51 rfl (lv_at hl 2 rfl) ?_
          refine lv_iload_n hx hb dX3_readItem_52 rfl (lv_at hl 1 rfl) ?_
          refine lv_iload_n hx hb dX3_readItem_53 rfl (lv_at hl 0 rfl) ?_
          refine zc_S (As := [.int 6, .int 0]) (rest := [.ref rd, .int x_217, .ref ri]) ⟨hx, hb, hml, hown, hts⟩ (c_R_leastOf_6_0 l D cI cJ cZ cP cS po  ) (va_cwS 2 hts gX3_readItem_X3_leastOf rfl rfl rfl dh_X3_leastOf ⟨Nat.le_of_ble_eq_true rfl, Nat.le_of_ble_eq_true rfl⟩) hK hN (hZ.kept hS) rfl hl.1 rfl (Nat.le_of_ble_eq_true rfl) dX3_readItem_54 ⟨Nat.le_of_ble_eq_true rfl, Nat.le_of_ble_eq_true rfl⟩ (fun r_219 hr_219 => ?_)
          obtain rfl := hr_219
          refine lv_aload_n hx hb dX3_readItem_57 rfl (lv_at hl 2 rfl) ?_
          refine lv_iload_n hx hb dX3_readItem_58 rfl (lv_at hl 1 rfl) ?_
          refine lv_iload_n hx hb dX3_readItem_59 rfl (lv_at hl 0 rfl) ?_
          refine zc_V (As := [.int 6, .int 0]) (rest := [.int 0, .ref rd, .int x_217, .ref ri]) ⟨hx, hb, hml, hown, hts⟩ (c_R_mostOf_6_0 l D cI cJ cZ cP cS po rd ri rl (rz) (rc) (q_213) (q_214) (rt) (ru) hy0 hy1 hy2 hy3 hbq_213.1 hbq_213.2 (by omega) hbq_214.1 hbq_214.2 hy9 hy10 hy11 hy12) (cwV 2 hts gX3_readItem_X3_mostOf rfl rfl rfl ⟨rfl, dh_X3_mostOf⟩ ⟨Nat.le_of_ble_eq_true rfl, Nat.le_of_ble_eq_true rfl⟩) hK hN (hZ.kept hS) hP (hP.sub [1] rfl) (va_recv (q := (RX3, TX3, 8)) hK hP (ci := 3) (q0 := 1) rfl rfl) rfl hl.1 rfl (Nat.le_of_ble_eq_true rfl) dX3_readItem_60 ⟨Nat.le_of_ble_eq_true rfl, Nat.le_of_ble_eq_true rfl⟩ (fun r_220 hr_220 => ?_)
          obtain rfl := hr_220
          have kc0 : (0 : Int32).toInt = 0 := by decide
          have kc9 : (9 : Int32).toInt = 9 := by decide
          skip
          refine zw_V (As := [.int 0, .int 9]) (rest := [.int x_217, .ref ri]) (wr := [(ri, .inl (cI, 132, .inl (upd fi slot.toNatClampNeg 6)))]) ⟨hx, hb, hml, hown, hts⟩ (c_F_R_readNumber l D cI cJ cZ cP cS po rd ri rl (rz) (rc) (q_213) (q_214) (rt) (ru) fl (0) (9) hy0 hy1 hy2 hy3 hbq_213.1 hbq_213.2 (by omega) hbq_214.1 hbq_214.2 hy9 hy10 hy11 hy12 H.size) (cwV 2 hts gX3_readItem_X3_readNumber rfl rfl rfl ⟨rfl, dh_X3_readNumber⟩ ⟨Nat.le_of_ble_eq_true rfl, Nat.le_of_ble_eq_true rfl⟩) hK hN (hZ.kept hS) hP hD hS hA [1, 2] [0] rfl rfl (by decide) (by decide) (by decide) (va_recv (q := (RX3, TX3, 8)) hK hP (ci := 3) (q0 := 1) rfl rfl) rfl hl.1 rfl (Nat.le_of_ble_eq_true rfl) dX3_readItem_63 ⟨Nat.le_of_ble_eq_true rfl, Nat.le_of_ble_eq_true rfl⟩ (fun r_221 u_222 H locs hr_221 hP hD hS => ?_)
          obtain ⟨q_223, q_224⟩ := u_222
          try dsimp only at hr_221
          obtain ⟨hbq_223, hbq_224, hsr_221_0, hsr_221_1, hsr_221_2, hsr_221_3, hr_221⟩ := hr_221
          have h9R := zRe (ws' := [(ri, .inl (cI, 132, .inl (upd fi slot.toNatClampNeg 6))), (rd, .inr (3, [.ref ri, .ref rl, .int rz, .int rc, .int q_223, .int q_224, .int rt, .int ru])), (rl, .inl (cI, 160, .inl fl))]) hP hD rfl
          clear hP hD
          obtain ⟨hP, hD⟩ := h9R
          obtain ⟨g_225, g_226⟩ := hr_221
          refine va_iast hx hb hK hP hD hS 0 0 rfl rfl (zf_in (by omega) (by omega)) dX3_readItem_66 (fun H locs hP hD hS => ?_)
          have h9R := zRe (ws' := [(ri, .inl (cI, 132, .inl (upd (upd fi slot.toNatClampNeg 6) x_217.toNatClampNeg r_221))), (rd, .inr (3, [.ref ri, .ref rl, .int rz, .int rc, .int q_223, .int q_224, .int rt, .int ru])), (rl, .inl (cI, 160, .inl fl))]) hP hD rfl
          clear hP hD
          obtain ⟨hP, hD⟩ := h9R
          have hn0 : zN1 fl rz.toInt (q_3 : Int32).toInt (zLo 6 0) (zHi 6 0 rt.toInt) = ((q_224 : Int32).toInt, (q_223 : Int32).toInt, r_221.toInt) := zN1_yes (p1 := (q_213 : Int32).toInt) (lo2 := ((0 : Int32)).toInt) (hi2 := ((9 : Int32)).toInt) (by omega) (by omega) hsr_221_1 hsr_221_2 (by first | decide | (show (0 : Int) = _; omega)) (by first | decide | (show (9 : Int) = _; decide) | (show rt.toInt - 1 = _; omega) | (show rt.toInt = _; omega)) (by omega)
          refine lv_aload_n hx hb dX3_readItem_67 rfl (lv_at hl 2 rfl) ?_
          refine va_get (D := D) (ci := 3) (v := .int q_224) (C := RX3) (T := TX3) (N := 8) hx hb hts hi_X3_readItem_3 hown hK hP 1 rfl rfl 5 (by decide) (hts (.fieldLink RX3 28 "TheLiningsInIt$Reader" "fault" "I") (List.mem_of_getElem? (i := 2) rfl)) (fun _ h9 => h9) rfl dX3_readItem_68 ?_
          refine lv_iconst (v := (-1)) hx hb dX3_readItem_71 (by decide) ?_
          refine lv_icmp_eq (tgt := 76) hx hb dX3_readItem_72 (by decide) (fun c_227 => ?_) (fun c_227 => ?_)
          · have fc_227 : q_224.toInt = (-1) := zf_eq c_227 rfl (by decide)
            refine lv_iinc (v := 1) (lv' := [(3, .int 1), (2, .int 6), (0, .ref rd), (1, .int slot)]) hx hb dX3_readItem_76 hl (k := 0) rfl (by decide) (by decide) rfl (fun ls hl => ?_)
            refine lv_goto (tgt := 20) hx hb dX3_readItem_79 (by decide) ?_
            refine lv_iload_n hx hb dX3_readItem_20 rfl (lv_at hl 0 rfl) ?_
            refine lv_iload_n hx hb dX3_readItem_21 rfl (lv_at hl 1 rfl) ?_
            refine zc_S (As := [.int 6]) (rest := [.int 1]) ⟨hx, hb, hml, hown, hts⟩ (c_R_numbersOf_6 l D cI cJ cZ cP cS po  ) (va_cwS 1 hts gX3_readItem_X3_numbersOf rfl rfl rfl dh_X3_numbersOf ⟨Nat.le_of_ble_eq_true rfl, Nat.le_of_ble_eq_true rfl⟩) hK hN (hZ.kept hS) rfl hl.1 rfl (Nat.le_of_ble_eq_true rfl) dX3_readItem_22 ⟨Nat.le_of_ble_eq_true rfl, Nat.le_of_ble_eq_true rfl⟩ (fun r_228 hr_228 => ?_)
            obtain rfl := hr_228
            refine lv_icmp_ge (tgt := 82) hx hb dX3_readItem_25 (by decide) (fun c_229 => ?_) (fun c_229 => ?_)
            · refine lv_iload_n hx hb dX3_readItem_82 rfl (lv_at hl 1 rfl) ?_
              refine lv_if_ne (tgt := 101) hx hb dX3_readItem_83 (by decide) (fun c_230 => ?_) (fun c_230 => ?_)
              · refine lv_iload_n hx hb dX3_readItem_101 rfl (lv_at hl 1 rfl) ?_
                refine lv_iconst (v := 3) hx hb dX3_readItem_102 (by decide) ?_
                refine lv_icmp_ne (tgt := 116) hx hb dX3_readItem_103 (by decide) (fun c_231 => ?_) (fun c_231 => ?_)
                · have e0 : slot.toNatClampNeg = slot.toInt.toNat + 0 := (by show (slot : Int32).toInt.toNat = _; omega)
                  have e1 : x_217.toNatClampNeg = slot.toInt.toNat + 1 := (by show (x_217 : Int32).toInt.toNat = _; omega)
                  have hI := zIn_a hn0 (by first | (right; decide) | (left; omega))
                  exact W.vret hx hb hr (fun t ht hW => ⟨⟨(q_223, q_224, rt, ru, (upd (upd fi slot.toNatClampNeg 6) x_217.toNatClampNeg r_221)), rfl, ⟨(show 0 ≤ q_223.toInt ∧ q_223.toInt ≤ 160 from hbq_223), (show (-1) ≤ q_224.toInt ∧ q_224.toInt ≤ 160 from hbq_224), (show 0 ≤ rt.toInt ∧ rt.toInt ≤ 40 from ⟨hy9, hy10⟩), (show 0 ≤ ru.toInt ∧ ru.toInt ≤ 8 from ⟨hy11, hy12⟩), (show q_223.toInt ≤ rz.toInt from by omega), (show (q_224.toInt = -1 → zIt (upd (upd fi slot.toNatClampNeg 6) x_217.toNatClampNeg r_221) slot.toInt.toNat) from by (intro h; have k3 : (6 : Int32).toInt = 6 := (by decide); exact zIt_mk (by simp only [upd]; rw [if_neg (by omega), if_pos (by omega)]) (by simp only [upd]; rw [if_pos (by omega)]) (rfl) (rfl) (by unfold zItv; refine ⟨?_, ?_, ?_, ?_, ?_, ?_, ?_, ?_, ?_, ?_, ?_⟩ <;> (intros; omega)))), (show (∀ j : Nat, j < slot.toInt.toNat → (upd (upd fi slot.toNatClampNeg 6) x_217.toNatClampNeg r_221) j = fi j) from by (intro j hj; simp only [upd]; rw [if_neg (by omega), if_neg (by omega)])), (show (q_224.toInt = (zItem fl rz.toInt rp.toInt rt.toInt ru.toInt).1 ∧ (q_224.toInt = -1 → q_223.toInt = (zItem fl rz.toInt rp.toInt rt.toInt ru.toInt).2.1 ∧ rt.toInt = (zItem fl rz.toInt rp.toInt rt.toInt ru.toInt).2.2.1 ∧ ru.toInt = (zItem fl rz.toInt rp.toInt rt.toInt ru.toInt).2.2.2)) from by (have z9 := hsr_1_1; rw [kc6] at z9; have hq : zFst fl rz.toInt rp.toInt zWds 10 = 6 ∧ ¬ ((6 : Int) = 3 ∧ ru.toInt = 8) := (by omega); have hl9 : (q_3 : Int32).toInt = rp.toInt + ((zWds ((6 : Int)).toNat).length : Nat) := (by omega); rw [zItem_w hq.1 (by decide) hq.2 hl9 hI]; dsimp only; exact ⟨by (first | rfl | omega), fun h => ⟨by (first | rfl | omega), by (show _ = (if (6 : Int) = 0 then _ else _); rw [if_neg (by decide)]), by (show _ = (if (6 : Int) = 3 then _ else _); rw [if_neg (by decide)])⟩⟩)), (show (q_224.toInt = -1 → (((upd (upd fi slot.toNatClampNeg 6) x_217.toNatClampNeg r_221) slot.toInt.toNat).toInt = 0 → rt.toInt = ((upd (upd fi slot.toNatClampNeg 6) x_217.toNatClampNeg r_221) (slot.toInt.toNat + 1)).toInt) ∧ (((upd (upd fi slot.toNatClampNeg 6) x_217.toNatClampNeg r_221) slot.toInt.toNat).toInt ≠ 0 → rt.toInt = rt.toInt) ∧ (((upd (upd fi slot.toNatClampNeg 6) x_217.toNatClampNeg r_221) slot.toInt.toNat).toInt = 3 → ru.toInt = ru.toInt + 1) ∧ (((upd (upd fi slot.toNatClampNeg 6) x_217.toNatClampNeg r_221) slot.toInt.toNat).toInt ≠ 3 → ru.toInt = ru.toInt)) from by (intro h; have g0 : (upd (upd fi slot.toNatClampNeg 6) x_217.toNatClampNeg r_221) slot.toInt.toNat = (6 : Int32) := (by simp only [upd]; rw [if_neg (by omega), if_pos (by omega)]); have g1 : (upd (upd fi slot.toNatClampNeg 6) x_217.toNatClampNeg r_221) (slot.toInt.toNat + 1) = (r_221 : Int32) := (by simp only [upd]; rw [if_pos (by omega)]); rw [g0, g1]; refine ⟨?_, ?_, ?_, ?_⟩ <;> (intro h9; first | rfl | omega | (exfalso; omega)))), (show (q_224.toInt = -1 → zSm (zDS (upd (upd fi slot.toNatClampNeg 6) x_217.toNatClampNeg r_221) slot.toInt.toNat) (zIm fl rz.toInt rp.toInt rt.toInt)) from by (intro h; have g0 : (upd (upd fi slot.toNatClampNeg 6) x_217.toNatClampNeg r_221) (slot.toInt.toNat + 0) = (6 : Int32) := (by simp only [upd]; rw [if_neg (by omega), if_pos (by omega)]); have g1 : (upd (upd fi slot.toNatClampNeg 6) x_217.toNatClampNeg r_221) (slot.toInt.toNat + 1) = (r_221 : Int32) := (by simp only [upd]; rw [if_pos (by omega)]); have z9 := hsr_1_1; rw [kc6] at z9; have hW : zIW fl rz.toInt rp.toInt = 6 := (by unfold zIW; omega); have hP9 : zIP fl rz.toInt rp.toInt = (q_3 : Int32).toInt := (by unfold zIP; rw [hW]; have hl9 : (q_3 : Int32).toInt = rp.toInt + ((zWds ((6 : Int)).toNat).length : Nat) := (by omega); exact hl9.symm); exact ⟨(show ((upd (upd fi slot.toNatClampNeg 6) x_217.toNatClampNeg r_221) (slot.toInt.toNat + 0)).toInt = zIW fl rz.toInt rp.toInt from by (rw [g0, hW]; omega)), (show ((upd (upd fi slot.toNatClampNeg 6) x_217.toNatClampNeg r_221) (slot.toInt.toNat + 1)).toInt = (zIn fl rz.toInt (zIP fl rz.toInt rp.toInt) rt.toInt (zIW fl rz.toInt rp.toInt)).2.2 from by (rw [g1, hP9, hW, hI])), fun hz => absurd (show ((upd (upd fi slot.toNatClampNeg 6) x_217.toNatClampNeg r_221) (slot.toInt.toNat + 0)).toInt = 2 ∨ ((upd (upd fi slot.toNatClampNeg 6) x_217.toNatClampNeg r_221) (slot.toInt.toNat + 0)).toInt = 3 ∨ ((upd (upd fi slot.toNatClampNeg 6) x_217.toNatClampNeg r_221) (slot.toInt.toNat + 0)).toInt = 8 from hz) (by rw [g0]; omega), fun hz => absurd (show ((upd (upd fi slot.toNatClampNeg 6) x_217.toNatClampNeg r_221) (slot.toInt.toNat + 0)).toInt = 3 from hz) (by rw [g0]; omega)⟩)), trivial⟩, zRet ht hP hD [1, 2, 0] (by decide) rfl⟩, hS.F ht⟩) hS.2.2 dX3_readItem_116
                · exact absurd c_231 (by decide)
              · exact absurd c_230 (by decide)
            · exact absurd c_229 (by decide)
          · have fc_227 : q_224.toInt ≠ (-1) := zf_ne c_227 rfl (by decide)
            have e0 : slot.toNatClampNeg = slot.toInt.toNat + 0 := (by show (slot : Int32).toInt.toNat = _; omega)
            have e1 : x_217.toNatClampNeg = slot.toInt.toNat + 1 := (by show (x_217 : Int32).toInt.toNat = _; omega)
            have hI := zIn_a hn0 (by first | (right; decide) | (left; omega))
            exact W.vret hx hb hr (fun t ht hW => ⟨⟨(q_223, q_224, rt, ru, (upd (upd fi slot.toNatClampNeg 6) x_217.toNatClampNeg r_221)), rfl, ⟨(show 0 ≤ q_223.toInt ∧ q_223.toInt ≤ 160 from hbq_223), (show (-1) ≤ q_224.toInt ∧ q_224.toInt ≤ 160 from hbq_224), (show 0 ≤ rt.toInt ∧ rt.toInt ≤ 40 from ⟨hy9, hy10⟩), (show 0 ≤ ru.toInt ∧ ru.toInt ≤ 8 from ⟨hy11, hy12⟩), (show q_223.toInt ≤ rz.toInt from by omega), (show (q_224.toInt = -1 → zIt (upd (upd fi slot.toNatClampNeg 6) x_217.toNatClampNeg r_221) slot.toInt.toNat) from by (intro h; exfalso; omega)), (show (∀ j : Nat, j < slot.toInt.toNat → (upd (upd fi slot.toNatClampNeg 6) x_217.toNatClampNeg r_221) j = fi j) from by (intro j hj; simp only [upd]; rw [if_neg (by omega), if_neg (by omega)])), (show (q_224.toInt = (zItem fl rz.toInt rp.toInt rt.toInt ru.toInt).1 ∧ (q_224.toInt = -1 → q_223.toInt = (zItem fl rz.toInt rp.toInt rt.toInt ru.toInt).2.1 ∧ rt.toInt = (zItem fl rz.toInt rp.toInt rt.toInt ru.toInt).2.2.1 ∧ ru.toInt = (zItem fl rz.toInt rp.toInt rt.toInt ru.toInt).2.2.2)) from by (have z9 := hsr_1_1; rw [kc6] at z9; have hq : zFst fl rz.toInt rp.toInt zWds 10 = 6 ∧ ¬ ((6 : Int) = 3 ∧ ru.toInt = 8) := (by omega); have hl9 : (q_3 : Int32).toInt = rp.toInt + ((zWds ((6 : Int)).toNat).length : Nat) := (by omega); rw [zItem_w hq.1 (by decide) hq.2 hl9 hI]; dsimp only; exact ⟨by (first | rfl | omega), fun h => ⟨by (first | rfl | omega), by (show _ = (if (6 : Int) = 0 then _ else _); rw [if_neg (by decide)]), by (show _ = (if (6 : Int) = 3 then _ else _); rw [if_neg (by decide)])⟩⟩)), (show (q_224.toInt = -1 → (((upd (upd fi slot.toNatClampNeg 6) x_217.toNatClampNeg r_221) slot.toInt.toNat).toInt = 0 → rt.toInt = ((upd (upd fi slot.toNatClampNeg 6) x_217.toNatClampNeg r_221) (slot.toInt.toNat + 1)).toInt) ∧ (((upd (upd fi slot.toNatClampNeg 6) x_217.toNatClampNeg r_221) slot.toInt.toNat).toInt ≠ 0 → rt.toInt = rt.toInt) ∧ (((upd (upd fi slot.toNatClampNeg 6) x_217.toNatClampNeg r_221) slot.toInt.toNat).toInt = 3 → ru.toInt = ru.toInt + 1) ∧ (((upd (upd fi slot.toNatClampNeg 6) x_217.toNatClampNeg r_221) slot.toInt.toNat).toInt ≠ 3 → ru.toInt = ru.toInt)) from by (intro h; exfalso; omega)), (show (q_224.toInt = -1 → zSm (zDS (upd (upd fi slot.toNatClampNeg 6) x_217.toNatClampNeg r_221) slot.toInt.toNat) (zIm fl rz.toInt rp.toInt rt.toInt)) from by (intro h; exfalso; omega)), trivial⟩, zRet ht hP hD [1, 2, 0] (by decide) rfl⟩, hS.F ht⟩) hS.2.2 dX3_readItem_75
    · have kc7 : (7 : Int32).toInt = 7 := by decide
      refine lv_aload_n hx hb dX3_readItem_11 rfl (lv_at hl 1 rfl) ?_
      refine va_get (D := D) (ci := 3) (v := .ref ri) (C := RX3) (T := TX3) (N := 8) hx hb hts hi_X3_readItem_3 hown hK hP 1 rfl rfl 0 (by decide) (hts (.fieldLink RX3 11 "TheLiningsInIt$Reader" "items" "[I") (List.mem_of_getElem? (i := 1) rfl)) (fun _ h9 => h9) rfl dX3_readItem_12 ?_
      refine lv_iload_n hx hb dX3_readItem_15 rfl (lv_at hl 2 rfl) ?_
      refine lv_iload_n hx hb dX3_readItem_16 rfl (lv_at hl 0 rfl) ?_
      refine va_iast hx hb hK hP hD hS 0 0 rfl rfl (zf_in (by omega) (by omega)) dX3_readItem_17 (fun H locs hP hD hS => ?_)
      have h9R := zRe (ws' := [(ri, .inl (cI, 132, .inl (upd fi slot.toNatClampNeg 7))), (rd, .inr (3, [.ref ri, .ref rl, .int rz, .int rc, .int q_3, .int q_4, .int rt, .int ru])), (rl, .inl (cI, 160, .inl fl))]) hP hD rfl
      clear hP hD
      obtain ⟨hP, hD⟩ := h9R
      refine lv_iconst (v := 0) hx hb dX3_readItem_18 (by decide) ?_
      refine lv_istore_n (lv' := [(3, .int 0), (2, .int 7), (0, .ref rd), (1, .int slot)]) hx hb dX3_readItem_19 rfl hl (by decide) rfl (fun ls hl => ?_)
      refine lv_iload_n hx hb dX3_readItem_20 rfl (lv_at hl 0 rfl) ?_
      refine lv_iload_n hx hb dX3_readItem_21 rfl (lv_at hl 1 rfl) ?_
      refine zc_S (As := [.int 7]) (rest := [.int 0]) ⟨hx, hb, hml, hown, hts⟩ (c_R_numbersOf_7 l D cI cJ cZ cP cS po  ) (va_cwS 1 hts gX3_readItem_X3_numbersOf rfl rfl rfl dh_X3_numbersOf ⟨Nat.le_of_ble_eq_true rfl, Nat.le_of_ble_eq_true rfl⟩) hK hN (hZ.kept hS) rfl hl.1 rfl (Nat.le_of_ble_eq_true rfl) dX3_readItem_22 ⟨Nat.le_of_ble_eq_true rfl, Nat.le_of_ble_eq_true rfl⟩ (fun r_232 hr_232 => ?_)
      obtain rfl := hr_232
      refine lv_icmp_ge (tgt := 82) hx hb dX3_readItem_25 (by decide) (fun c_233 => ?_) (fun c_233 => ?_)
      · exact absurd c_233 (by decide)
      · refine lv_aload_n hx hb dX3_readItem_28 rfl (lv_at hl 2 rfl) ?_
        refine lv_bipush (v := 32) hx hb dX3_readItem_29 (by decide) ?_
        have kc32 : (32 : Int32).toInt = 32 := by decide
        skip
        refine zw_Vv (As := [.int 32]) (rest := []) (wr := [(ri, .inl (cI, 132, .inl (upd fi slot.toNatClampNeg 7)))]) ⟨hx, hb, hml, hown, hts⟩ (c_F_R_expect l D cI cJ cZ cP cS po rd ri rl (rz) (rc) (q_3) (q_4) (rt) (ru) fl (32) hy0 hy1 hy2 hy3 hbq_3.1 hbq_3.2 (by omega) hbq_4.1 hbq_4.2 hy9 hy10 hy11 hy12 H.size) (cwV 1 hts gX3_readItem_X3_expect rfl rfl rfl ⟨rfl, dh_X3_expect⟩ ⟨Nat.le_of_ble_eq_true rfl, Nat.le_of_ble_eq_true rfl⟩) hK hN (hZ.kept hS) hP hD hS hA [1, 2] [0] rfl rfl (by decide) (by decide) (by decide) (va_recv (q := (RX3, TX3, 8)) hK hP (ci := 3) (q0 := 1) rfl rfl) rfl hl.1 rfl (Nat.le_of_ble_eq_true rfl) dX3_readItem_31 ⟨Nat.le_of_ble_eq_true rfl, Nat.le_of_ble_eq_true rfl⟩ (fun u_235 H locs hr_234 hP hD hS => ?_)
        obtain ⟨q_236, q_237⟩ := u_235
        try dsimp only at hr_234
        obtain ⟨hbq_236, hbq_237, hsr_234_0, hsr_234_1, hr_234⟩ := hr_234
        have h9R := zRe (ws' := [(ri, .inl (cI, 132, .inl (upd fi slot.toNatClampNeg 7))), (rd, .inr (3, [.ref ri, .ref rl, .int rz, .int rc, .int q_236, .int q_237, .int rt, .int ru])), (rl, .inl (cI, 160, .inl fl))]) hP hD rfl
        clear hP hD
        obtain ⟨hP, hD⟩ := h9R
        refine lv_aload_n hx hb dX3_readItem_34 rfl (lv_at hl 2 rfl) ?_
        refine va_get (D := D) (ci := 3) (v := .int q_237) (C := RX3) (T := TX3) (N := 8) hx hb hts hi_X3_readItem_3 hown hK hP 1 rfl rfl 5 (by decide) (hts (.fieldLink RX3 28 "TheLiningsInIt$Reader" "fault" "I") (List.mem_of_getElem? (i := 2) rfl)) (fun _ h9 => h9) rfl dX3_readItem_35 ?_
        refine lv_iconst (v := (-1)) hx hb dX3_readItem_38 (by decide) ?_
        refine lv_icmp_ne (tgt := 67) hx hb dX3_readItem_39 (by decide) (fun c_238 => ?_) (fun c_238 => ?_)
        · have fc_238 : q_237.toInt ≠ (-1) := zf_ne c_238 rfl (by decide)
          have hn0 : zN1 fl rz.toInt (q_3 : Int32).toInt (zLo 7 0) (zHi 7 0 rt.toInt) = ((q_3 : Int32).toInt, (q_3 : Int32).toInt, 0) := zN1_no (by omega)
          refine lv_aload_n hx hb dX3_readItem_67 rfl (lv_at hl 2 rfl) ?_
          refine va_get (D := D) (ci := 3) (v := .int q_237) (C := RX3) (T := TX3) (N := 8) hx hb hts hi_X3_readItem_3 hown hK hP 1 rfl rfl 5 (by decide) (hts (.fieldLink RX3 28 "TheLiningsInIt$Reader" "fault" "I") (List.mem_of_getElem? (i := 2) rfl)) (fun _ h9 => h9) rfl dX3_readItem_68 ?_
          refine lv_iconst (v := (-1)) hx hb dX3_readItem_71 (by decide) ?_
          refine lv_icmp_eq (tgt := 76) hx hb dX3_readItem_72 (by decide) (fun c_239 => ?_) (fun c_239 => ?_)
          · exfalso; have fc_239 : q_237.toInt = (-1) := zf_eq c_239 rfl (by decide); omega
          · have fc_239 : q_237.toInt ≠ (-1) := zf_ne c_239 rfl (by decide)
            have e0 : slot.toNatClampNeg = slot.toInt.toNat + 0 := (by show (slot : Int32).toInt.toNat = _; omega)
            have hI := zIn_a hn0 (by first | (right; decide) | (left; omega))
            exact W.vret hx hb hr (fun t ht hW => ⟨⟨(q_236, q_237, rt, ru, (upd fi slot.toNatClampNeg 7)), rfl, ⟨(show 0 ≤ q_236.toInt ∧ q_236.toInt ≤ 160 from hbq_236), (show (-1) ≤ q_237.toInt ∧ q_237.toInt ≤ 160 from hbq_237), (show 0 ≤ rt.toInt ∧ rt.toInt ≤ 40 from ⟨hy9, hy10⟩), (show 0 ≤ ru.toInt ∧ ru.toInt ≤ 8 from ⟨hy11, hy12⟩), (show q_236.toInt ≤ rz.toInt from by omega), (show (q_237.toInt = -1 → zIt (upd fi slot.toNatClampNeg 7) slot.toInt.toNat) from by (intro h; exfalso; omega)), (show (∀ j : Nat, j < slot.toInt.toNat → (upd fi slot.toNatClampNeg 7) j = fi j) from by (intro j hj; simp only [upd]; rw [if_neg (by omega)])), (show (q_237.toInt = (zItem fl rz.toInt rp.toInt rt.toInt ru.toInt).1 ∧ (q_237.toInt = -1 → q_236.toInt = (zItem fl rz.toInt rp.toInt rt.toInt ru.toInt).2.1 ∧ rt.toInt = (zItem fl rz.toInt rp.toInt rt.toInt ru.toInt).2.2.1 ∧ ru.toInt = (zItem fl rz.toInt rp.toInt rt.toInt ru.toInt).2.2.2)) from by (have z9 := hsr_1_1; rw [kc7] at z9; have hq : zFst fl rz.toInt rp.toInt zWds 10 = 7 ∧ ¬ ((7 : Int) = 3 ∧ ru.toInt = 8) := (by omega); have hl9 : (q_3 : Int32).toInt = rp.toInt + ((zWds ((7 : Int)).toNat).length : Nat) := (by omega); rw [zItem_w hq.1 (by decide) hq.2 hl9 hI]; dsimp only; exact ⟨by (first | rfl | omega), fun h => ⟨by (first | rfl | omega), by (show _ = (if (7 : Int) = 0 then _ else _); rw [if_neg (by decide)]), by (show _ = (if (7 : Int) = 3 then _ else _); rw [if_neg (by decide)])⟩⟩)), (show (q_237.toInt = -1 → (((upd fi slot.toNatClampNeg 7) slot.toInt.toNat).toInt = 0 → rt.toInt = ((upd fi slot.toNatClampNeg 7) (slot.toInt.toNat + 1)).toInt) ∧ (((upd fi slot.toNatClampNeg 7) slot.toInt.toNat).toInt ≠ 0 → rt.toInt = rt.toInt) ∧ (((upd fi slot.toNatClampNeg 7) slot.toInt.toNat).toInt = 3 → ru.toInt = ru.toInt + 1) ∧ (((upd fi slot.toNatClampNeg 7) slot.toInt.toNat).toInt ≠ 3 → ru.toInt = ru.toInt)) from by (intro h; exfalso; omega)), (show (q_237.toInt = -1 → zSm (zDS (upd fi slot.toNatClampNeg 7) slot.toInt.toNat) (zIm fl rz.toInt rp.toInt rt.toInt)) from by (intro h; exfalso; omega)), trivial⟩, zRet ht hP hD [1, 2, 0] (by decide) rfl⟩, hS.F ht⟩) hS.2.2 dX3_readItem_75
        · have fc_238 : q_237.toInt = (-1) := zf_eq c_238 rfl (by decide)
          refine lv_aload_n hx hb dX3_readItem_42 rfl (lv_at hl 2 rfl) ?_
          refine va_get (D := D) (ci := 3) (v := .ref ri) (C := RX3) (T := TX3) (N := 8) hx hb hts hi_X3_readItem_3 hown hK hP 1 rfl rfl 0 (by decide) (hts (.fieldLink RX3 11 "TheLiningsInIt$Reader" "items" "[I") (List.mem_of_getElem? (i := 1) rfl)) (fun _ h9 => h9) rfl dX3_readItem_43 ?_
          refine lv_iload_n hx hb dX3_readItem_46 rfl (lv_at hl 3 rfl) ?_
          refine lv_iconst (v := 1) hx hb dX3_readItem_47 (by decide) ?_
          refine lv_iadd hx hb dX3_readItem_48 ?_
          refine lv_topi (fun x_240 ex_240 => ?_)
          have qx_240 : x_240.toInt = slot.toInt + 1 := by rw [ex_240]; exact zf_add rfl (by decide) (by omega) (by omega)
          refine lv_iload_n hx hb dX3_readItem_49 rfl (lv_at hl 0 rfl) ?_
          refine lv_iadd hx hb dX3_readItem_50 ?_
          refine lv_topi (fun y_241 ey_241 => ?_)
          obtain rfl : x_240 = y_241 := (ey_241.trans (Int32.add_zero x_240)).symm
          refine lv_aload_n hx hb dX3_readItem_51 rfl (lv_at hl 2 rfl) ?_
          refine lv_iload_n hx hb dX3_readItem_52 rfl (lv_at hl 1 rfl) ?_
          refine lv_iload_n hx hb dX3_readItem_53 rfl (lv_at hl 0 rfl) ?_
          refine zc_S (As := [.int 7, .int 0]) (rest := [.ref rd, .int x_240, .ref ri]) ⟨hx, hb, hml, hown, hts⟩ (c_R_leastOf_7_0 l D cI cJ cZ cP cS po  ) (va_cwS 2 hts gX3_readItem_X3_leastOf rfl rfl rfl dh_X3_leastOf ⟨Nat.le_of_ble_eq_true rfl, Nat.le_of_ble_eq_true rfl⟩) hK hN (hZ.kept hS) rfl hl.1 rfl (Nat.le_of_ble_eq_true rfl) dX3_readItem_54 ⟨Nat.le_of_ble_eq_true rfl, Nat.le_of_ble_eq_true rfl⟩ (fun r_242 hr_242 => ?_)
          obtain rfl := hr_242
          refine lv_aload_n hx hb dX3_readItem_57 rfl (lv_at hl 2 rfl) ?_
          refine lv_iload_n hx hb dX3_readItem_58 rfl (lv_at hl 1 rfl) ?_
          refine lv_iload_n hx hb dX3_readItem_59 rfl (lv_at hl 0 rfl) ?_
          refine zc_V (As := [.int 7, .int 0]) (rest := [.int 1, .ref rd, .int x_240, .ref ri]) ⟨hx, hb, hml, hown, hts⟩ (c_R_mostOf_7_0 l D cI cJ cZ cP cS po rd ri rl (rz) (rc) (q_236) (q_237) (rt) (ru) hy0 hy1 hy2 hy3 hbq_236.1 hbq_236.2 (by omega) hbq_237.1 hbq_237.2 hy9 hy10 hy11 hy12) (cwV 2 hts gX3_readItem_X3_mostOf rfl rfl rfl ⟨rfl, dh_X3_mostOf⟩ ⟨Nat.le_of_ble_eq_true rfl, Nat.le_of_ble_eq_true rfl⟩) hK hN (hZ.kept hS) hP (hP.sub [1] rfl) (va_recv (q := (RX3, TX3, 8)) hK hP (ci := 3) (q0 := 1) rfl rfl) rfl hl.1 rfl (Nat.le_of_ble_eq_true rfl) dX3_readItem_60 ⟨Nat.le_of_ble_eq_true rfl, Nat.le_of_ble_eq_true rfl⟩ (fun r_243 hr_243 => ?_)
          obtain rfl := hr_243
          have kc1 : (1 : Int32).toInt = 1 := by decide
          have kc9 : (9 : Int32).toInt = 9 := by decide
          skip
          refine zw_V (As := [.int 1, .int 9]) (rest := [.int x_240, .ref ri]) (wr := [(ri, .inl (cI, 132, .inl (upd fi slot.toNatClampNeg 7)))]) ⟨hx, hb, hml, hown, hts⟩ (c_F_R_readNumber l D cI cJ cZ cP cS po rd ri rl (rz) (rc) (q_236) (q_237) (rt) (ru) fl (1) (9) hy0 hy1 hy2 hy3 hbq_236.1 hbq_236.2 (by omega) hbq_237.1 hbq_237.2 hy9 hy10 hy11 hy12 H.size) (cwV 2 hts gX3_readItem_X3_readNumber rfl rfl rfl ⟨rfl, dh_X3_readNumber⟩ ⟨Nat.le_of_ble_eq_true rfl, Nat.le_of_ble_eq_true rfl⟩) hK hN (hZ.kept hS) hP hD hS hA [1, 2] [0] rfl rfl (by decide) (by decide) (by decide) (va_recv (q := (RX3, TX3, 8)) hK hP (ci := 3) (q0 := 1) rfl rfl) rfl hl.1 rfl (Nat.le_of_ble_eq_true rfl) dX3_readItem_63 ⟨Nat.le_of_ble_eq_true rfl, Nat.le_of_ble_eq_true rfl⟩ (fun r_244 u_245 H locs hr_244 hP hD hS => ?_)
          obtain ⟨q_246, q_247⟩ := u_245
          try dsimp only at hr_244
          obtain ⟨hbq_246, hbq_247, hsr_244_0, hsr_244_1, hsr_244_2, hsr_244_3, hr_244⟩ := hr_244
          have h9R := zRe (ws' := [(ri, .inl (cI, 132, .inl (upd fi slot.toNatClampNeg 7))), (rd, .inr (3, [.ref ri, .ref rl, .int rz, .int rc, .int q_246, .int q_247, .int rt, .int ru])), (rl, .inl (cI, 160, .inl fl))]) hP hD rfl
          clear hP hD
          obtain ⟨hP, hD⟩ := h9R
          obtain ⟨g_248, g_249⟩ := hr_244
          refine va_iast hx hb hK hP hD hS 0 0 rfl rfl (zf_in (by omega) (by omega)) dX3_readItem_66 (fun H locs hP hD hS => ?_)
          have h9R := zRe (ws' := [(ri, .inl (cI, 132, .inl (upd (upd fi slot.toNatClampNeg 7) x_240.toNatClampNeg r_244))), (rd, .inr (3, [.ref ri, .ref rl, .int rz, .int rc, .int q_246, .int q_247, .int rt, .int ru])), (rl, .inl (cI, 160, .inl fl))]) hP hD rfl
          clear hP hD
          obtain ⟨hP, hD⟩ := h9R
          have hn0 : zN1 fl rz.toInt (q_3 : Int32).toInt (zLo 7 0) (zHi 7 0 rt.toInt) = ((q_247 : Int32).toInt, (q_246 : Int32).toInt, r_244.toInt) := zN1_yes (p1 := (q_236 : Int32).toInt) (lo2 := ((1 : Int32)).toInt) (hi2 := ((9 : Int32)).toInt) (by omega) (by omega) hsr_244_1 hsr_244_2 (by first | decide | (show (0 : Int) = _; omega)) (by first | decide | (show (9 : Int) = _; decide) | (show rt.toInt - 1 = _; omega) | (show rt.toInt = _; omega)) (by omega)
          refine lv_aload_n hx hb dX3_readItem_67 rfl (lv_at hl 2 rfl) ?_
          refine va_get (D := D) (ci := 3) (v := .int q_247) (C := RX3) (T := TX3) (N := 8) hx hb hts hi_X3_readItem_3 hown hK hP 1 rfl rfl 5 (by decide) (hts (.fieldLink RX3 28 "TheLiningsInIt$Reader" "fault" "I") (List.mem_of_getElem? (i := 2) rfl)) (fun _ h9 => h9) rfl dX3_readItem_68 ?_
          refine lv_iconst (v := (-1)) hx hb dX3_readItem_71 (by decide) ?_
          refine lv_icmp_eq (tgt := 76) hx hb dX3_readItem_72 (by decide) (fun c_250 => ?_) (fun c_250 => ?_)
          · have fc_250 : q_247.toInt = (-1) := zf_eq c_250 rfl (by decide)
            refine lv_iinc (v := 1) (lv' := [(3, .int 1), (2, .int 7), (0, .ref rd), (1, .int slot)]) hx hb dX3_readItem_76 hl (k := 0) rfl (by decide) (by decide) rfl (fun ls hl => ?_)
            refine lv_goto (tgt := 20) hx hb dX3_readItem_79 (by decide) ?_
            refine lv_iload_n hx hb dX3_readItem_20 rfl (lv_at hl 0 rfl) ?_
            refine lv_iload_n hx hb dX3_readItem_21 rfl (lv_at hl 1 rfl) ?_
            refine zc_S (As := [.int 7]) (rest := [.int 1]) ⟨hx, hb, hml, hown, hts⟩ (c_R_numbersOf_7 l D cI cJ cZ cP cS po  ) (va_cwS 1 hts gX3_readItem_X3_numbersOf rfl rfl rfl dh_X3_numbersOf ⟨Nat.le_of_ble_eq_true rfl, Nat.le_of_ble_eq_true rfl⟩) hK hN (hZ.kept hS) rfl hl.1 rfl (Nat.le_of_ble_eq_true rfl) dX3_readItem_22 ⟨Nat.le_of_ble_eq_true rfl, Nat.le_of_ble_eq_true rfl⟩ (fun r_251 hr_251 => ?_)
            obtain rfl := hr_251
            refine lv_icmp_ge (tgt := 82) hx hb dX3_readItem_25 (by decide) (fun c_252 => ?_) (fun c_252 => ?_)
            · refine lv_iload_n hx hb dX3_readItem_82 rfl (lv_at hl 1 rfl) ?_
              refine lv_if_ne (tgt := 101) hx hb dX3_readItem_83 (by decide) (fun c_253 => ?_) (fun c_253 => ?_)
              · refine lv_iload_n hx hb dX3_readItem_101 rfl (lv_at hl 1 rfl) ?_
                refine lv_iconst (v := 3) hx hb dX3_readItem_102 (by decide) ?_
                refine lv_icmp_ne (tgt := 116) hx hb dX3_readItem_103 (by decide) (fun c_254 => ?_) (fun c_254 => ?_)
                · have e0 : slot.toNatClampNeg = slot.toInt.toNat + 0 := (by show (slot : Int32).toInt.toNat = _; omega)
                  have e1 : x_240.toNatClampNeg = slot.toInt.toNat + 1 := (by show (x_240 : Int32).toInt.toNat = _; omega)
                  have hI := zIn_a hn0 (by first | (right; decide) | (left; omega))
                  exact W.vret hx hb hr (fun t ht hW => ⟨⟨(q_246, q_247, rt, ru, (upd (upd fi slot.toNatClampNeg 7) x_240.toNatClampNeg r_244)), rfl, ⟨(show 0 ≤ q_246.toInt ∧ q_246.toInt ≤ 160 from hbq_246), (show (-1) ≤ q_247.toInt ∧ q_247.toInt ≤ 160 from hbq_247), (show 0 ≤ rt.toInt ∧ rt.toInt ≤ 40 from ⟨hy9, hy10⟩), (show 0 ≤ ru.toInt ∧ ru.toInt ≤ 8 from ⟨hy11, hy12⟩), (show q_246.toInt ≤ rz.toInt from by omega), (show (q_247.toInt = -1 → zIt (upd (upd fi slot.toNatClampNeg 7) x_240.toNatClampNeg r_244) slot.toInt.toNat) from by (intro h; have k3 : (7 : Int32).toInt = 7 := (by decide); exact zIt_mk (by simp only [upd]; rw [if_neg (by omega), if_pos (by omega)]) (by simp only [upd]; rw [if_pos (by omega)]) (rfl) (rfl) (by unfold zItv; refine ⟨?_, ?_, ?_, ?_, ?_, ?_, ?_, ?_, ?_, ?_, ?_⟩ <;> (intros; omega)))), (show (∀ j : Nat, j < slot.toInt.toNat → (upd (upd fi slot.toNatClampNeg 7) x_240.toNatClampNeg r_244) j = fi j) from by (intro j hj; simp only [upd]; rw [if_neg (by omega), if_neg (by omega)])), (show (q_247.toInt = (zItem fl rz.toInt rp.toInt rt.toInt ru.toInt).1 ∧ (q_247.toInt = -1 → q_246.toInt = (zItem fl rz.toInt rp.toInt rt.toInt ru.toInt).2.1 ∧ rt.toInt = (zItem fl rz.toInt rp.toInt rt.toInt ru.toInt).2.2.1 ∧ ru.toInt = (zItem fl rz.toInt rp.toInt rt.toInt ru.toInt).2.2.2)) from by (have z9 := hsr_1_1; rw [kc7] at z9; have hq : zFst fl rz.toInt rp.toInt zWds 10 = 7 ∧ ¬ ((7 : Int) = 3 ∧ ru.toInt = 8) := (by omega); have hl9 : (q_3 : Int32).toInt = rp.toInt + ((zWds ((7 : Int)).toNat).length : Nat) := (by omega); rw [zItem_w hq.1 (by decide) hq.2 hl9 hI]; dsimp only; exact ⟨by (first | rfl | omega), fun h => ⟨by (first | rfl | omega), by (show _ = (if (7 : Int) = 0 then _ else _); rw [if_neg (by decide)]), by (show _ = (if (7 : Int) = 3 then _ else _); rw [if_neg (by decide)])⟩⟩)), (show (q_247.toInt = -1 → (((upd (upd fi slot.toNatClampNeg 7) x_240.toNatClampNeg r_244) slot.toInt.toNat).toInt = 0 → rt.toInt = ((upd (upd fi slot.toNatClampNeg 7) x_240.toNatClampNeg r_244) (slot.toInt.toNat + 1)).toInt) ∧ (((upd (upd fi slot.toNatClampNeg 7) x_240.toNatClampNeg r_244) slot.toInt.toNat).toInt ≠ 0 → rt.toInt = rt.toInt) ∧ (((upd (upd fi slot.toNatClampNeg 7) x_240.toNatClampNeg r_244) slot.toInt.toNat).toInt = 3 → ru.toInt = ru.toInt + 1) ∧ (((upd (upd fi slot.toNatClampNeg 7) x_240.toNatClampNeg r_244) slot.toInt.toNat).toInt ≠ 3 → ru.toInt = ru.toInt)) from by (intro h; have g0 : (upd (upd fi slot.toNatClampNeg 7) x_240.toNatClampNeg r_244) slot.toInt.toNat = (7 : Int32) := (by simp only [upd]; rw [if_neg (by omega), if_pos (by omega)]); have g1 : (upd (upd fi slot.toNatClampNeg 7) x_240.toNatClampNeg r_244) (slot.toInt.toNat + 1) = (r_244 : Int32) := (by simp only [upd]; rw [if_pos (by omega)]); rw [g0, g1]; refine ⟨?_, ?_, ?_, ?_⟩ <;> (intro h9; first | rfl | omega | (exfalso; omega)))), (show (q_247.toInt = -1 → zSm (zDS (upd (upd fi slot.toNatClampNeg 7) x_240.toNatClampNeg r_244) slot.toInt.toNat) (zIm fl rz.toInt rp.toInt rt.toInt)) from by (intro h; have g0 : (upd (upd fi slot.toNatClampNeg 7) x_240.toNatClampNeg r_244) (slot.toInt.toNat + 0) = (7 : Int32) := (by simp only [upd]; rw [if_neg (by omega), if_pos (by omega)]); have g1 : (upd (upd fi slot.toNatClampNeg 7) x_240.toNatClampNeg r_244) (slot.toInt.toNat + 1) = (r_244 : Int32) := (by simp only [upd]; rw [if_pos (by omega)]); have z9 := hsr_1_1; rw [kc7] at z9; have hW : zIW fl rz.toInt rp.toInt = 7 := (by unfold zIW; omega); have hP9 : zIP fl rz.toInt rp.toInt = (q_3 : Int32).toInt := (by unfold zIP; rw [hW]; have hl9 : (q_3 : Int32).toInt = rp.toInt + ((zWds ((7 : Int)).toNat).length : Nat) := (by omega); exact hl9.symm); exact ⟨(show ((upd (upd fi slot.toNatClampNeg 7) x_240.toNatClampNeg r_244) (slot.toInt.toNat + 0)).toInt = zIW fl rz.toInt rp.toInt from by (rw [g0, hW]; omega)), (show ((upd (upd fi slot.toNatClampNeg 7) x_240.toNatClampNeg r_244) (slot.toInt.toNat + 1)).toInt = (zIn fl rz.toInt (zIP fl rz.toInt rp.toInt) rt.toInt (zIW fl rz.toInt rp.toInt)).2.2 from by (rw [g1, hP9, hW, hI])), fun hz => absurd (show ((upd (upd fi slot.toNatClampNeg 7) x_240.toNatClampNeg r_244) (slot.toInt.toNat + 0)).toInt = 2 ∨ ((upd (upd fi slot.toNatClampNeg 7) x_240.toNatClampNeg r_244) (slot.toInt.toNat + 0)).toInt = 3 ∨ ((upd (upd fi slot.toNatClampNeg 7) x_240.toNatClampNeg r_244) (slot.toInt.toNat + 0)).toInt = 8 from hz) (by rw [g0]; omega), fun hz => absurd (show ((upd (upd fi slot.toNatClampNeg 7) x_240.toNatClampNeg r_244) (slot.toInt.toNat + 0)).toInt = 3 from hz) (by rw [g0]; omega)⟩)), trivial⟩, zRet ht hP hD [1, 2, 0] (by decide) rfl⟩, hS.F ht⟩) hS.2.2 dX3_readItem_116
                · exact absurd c_254 (by decide)
              · exact absurd c_253 (by decide)
            · exact absurd c_252 (by decide)
          · have fc_250 : q_247.toInt ≠ (-1) := zf_ne c_250 rfl (by decide)
            have e0 : slot.toNatClampNeg = slot.toInt.toNat + 0 := (by show (slot : Int32).toInt.toNat = _; omega)
            have e1 : x_240.toNatClampNeg = slot.toInt.toNat + 1 := (by show (x_240 : Int32).toInt.toNat = _; omega)
            have hI := zIn_a hn0 (by first | (right; decide) | (left; omega))
            exact W.vret hx hb hr (fun t ht hW => ⟨⟨(q_246, q_247, rt, ru, (upd (upd fi slot.toNatClampNeg 7) x_240.toNatClampNeg r_244)), rfl, ⟨(show 0 ≤ q_246.toInt ∧ q_246.toInt ≤ 160 from hbq_246), (show (-1) ≤ q_247.toInt ∧ q_247.toInt ≤ 160 from hbq_247), (show 0 ≤ rt.toInt ∧ rt.toInt ≤ 40 from ⟨hy9, hy10⟩), (show 0 ≤ ru.toInt ∧ ru.toInt ≤ 8 from ⟨hy11, hy12⟩), (show q_246.toInt ≤ rz.toInt from by omega), (show (q_247.toInt = -1 → zIt (upd (upd fi slot.toNatClampNeg 7) x_240.toNatClampNeg r_244) slot.toInt.toNat) from by (intro h; exfalso; omega)), (show (∀ j : Nat, j < slot.toInt.toNat → (upd (upd fi slot.toNatClampNeg 7) x_240.toNatClampNeg r_244) j = fi j) from by (intro j hj; simp only [upd]; rw [if_neg (by omega), if_neg (by omega)])), (show (q_247.toInt = (zItem fl rz.toInt rp.toInt rt.toInt ru.toInt).1 ∧ (q_247.toInt = -1 → q_246.toInt = (zItem fl rz.toInt rp.toInt rt.toInt ru.toInt).2.1 ∧ rt.toInt = (zItem fl rz.toInt rp.toInt rt.toInt ru.toInt).2.2.1 ∧ ru.toInt = (zItem fl rz.toInt rp.toInt rt.toInt ru.toInt).2.2.2)) from by (have z9 := hsr_1_1; rw [kc7] at z9; have hq : zFst fl rz.toInt rp.toInt zWds 10 = 7 ∧ ¬ ((7 : Int) = 3 ∧ ru.toInt = 8) := (by omega); have hl9 : (q_3 : Int32).toInt = rp.toInt + ((zWds ((7 : Int)).toNat).length : Nat) := (by omega); rw [zItem_w hq.1 (by decide) hq.2 hl9 hI]; dsimp only; exact ⟨by (first | rfl | omega), fun h => ⟨by (first | rfl | omega), by (show _ = (if (7 : Int) = 0 then _ else _); rw [if_neg (by decide)]), by (show _ = (if (7 : Int) = 3 then _ else _); rw [if_neg (by decide)])⟩⟩)), (show (q_247.toInt = -1 → (((upd (upd fi slot.toNatClampNeg 7) x_240.toNatClampNeg r_244) slot.toInt.toNat).toInt = 0 → rt.toInt = ((upd (upd fi slot.toNatClampNeg 7) x_240.toNatClampNeg r_244) (slot.toInt.toNat + 1)).toInt) ∧ (((upd (upd fi slot.toNatClampNeg 7) x_240.toNatClampNeg r_244) slot.toInt.toNat).toInt ≠ 0 → rt.toInt = rt.toInt) ∧ (((upd (upd fi slot.toNatClampNeg 7) x_240.toNatClampNeg r_244) slot.toInt.toNat).toInt = 3 → ru.toInt = ru.toInt + 1) ∧ (((upd (upd fi slot.toNatClampNeg 7) x_240.toNatClampNeg r_244) slot.toInt.toNat).toInt ≠ 3 → ru.toInt = ru.toInt)) from by (intro h; exfalso; omega)), (show (q_247.toInt = -1 → zSm (zDS (upd (upd fi slot.toNatClampNeg 7) x_240.toNatClampNeg r_244) slot.toInt.toNat) (zIm fl rz.toInt rp.toInt rt.toInt)) from by (intro h; exfalso; omega)), trivial⟩, zRet ht hP hD [1, 2, 0] (by decide) rfl⟩, hS.F ht⟩) hS.2.2 dX3_readItem_75
    · have kc8 : (8 : Int32).toInt = 8 := by decide
      refine lv_aload_n hx hb dX3_readItem_11 rfl (lv_at hl 1 rfl) ?_
      refine va_get (D := D) (ci := 3) (v := .ref ri) (C := RX3) (T := TX3) (N := 8) hx hb hts hi_X3_readItem_3 hown hK hP 1 rfl rfl 0 (by decide) (hts (.fieldLink RX3 11 "TheLiningsInIt$Reader" "items" "[I") (List.mem_of_getElem? (i := 1) rfl)) (fun _ h9 => h9) rfl dX3_readItem_12 ?_
      refine lv_iload_n hx hb dX3_readItem_15 rfl (lv_at hl 2 rfl) ?_
      refine lv_iload_n hx hb dX3_readItem_16 rfl (lv_at hl 0 rfl) ?_
      refine va_iast hx hb hK hP hD hS 0 0 rfl rfl (zf_in (by omega) (by omega)) dX3_readItem_17 (fun H locs hP hD hS => ?_)
      have h9R := zRe (ws' := [(ri, .inl (cI, 132, .inl (upd fi slot.toNatClampNeg 8))), (rd, .inr (3, [.ref ri, .ref rl, .int rz, .int rc, .int q_3, .int q_4, .int rt, .int ru])), (rl, .inl (cI, 160, .inl fl))]) hP hD rfl
      clear hP hD
      obtain ⟨hP, hD⟩ := h9R
      refine lv_iconst (v := 0) hx hb dX3_readItem_18 (by decide) ?_
      refine lv_istore_n (lv' := [(3, .int 0), (2, .int 8), (0, .ref rd), (1, .int slot)]) hx hb dX3_readItem_19 rfl hl (by decide) rfl (fun ls hl => ?_)
      refine lv_iload_n hx hb dX3_readItem_20 rfl (lv_at hl 0 rfl) ?_
      refine lv_iload_n hx hb dX3_readItem_21 rfl (lv_at hl 1 rfl) ?_
      refine zc_S (As := [.int 8]) (rest := [.int 0]) ⟨hx, hb, hml, hown, hts⟩ (c_R_numbersOf_8 l D cI cJ cZ cP cS po  ) (va_cwS 1 hts gX3_readItem_X3_numbersOf rfl rfl rfl dh_X3_numbersOf ⟨Nat.le_of_ble_eq_true rfl, Nat.le_of_ble_eq_true rfl⟩) hK hN (hZ.kept hS) rfl hl.1 rfl (Nat.le_of_ble_eq_true rfl) dX3_readItem_22 ⟨Nat.le_of_ble_eq_true rfl, Nat.le_of_ble_eq_true rfl⟩ (fun r_255 hr_255 => ?_)
      obtain rfl := hr_255
      refine lv_icmp_ge (tgt := 82) hx hb dX3_readItem_25 (by decide) (fun c_256 => ?_) (fun c_256 => ?_)
      · exact absurd c_256 (by decide)
      · refine lv_aload_n hx hb dX3_readItem_28 rfl (lv_at hl 2 rfl) ?_
        refine lv_bipush (v := 32) hx hb dX3_readItem_29 (by decide) ?_
        have kc32 : (32 : Int32).toInt = 32 := by decide
        skip
        refine zw_Vv (As := [.int 32]) (rest := []) (wr := [(ri, .inl (cI, 132, .inl (upd fi slot.toNatClampNeg 8)))]) ⟨hx, hb, hml, hown, hts⟩ (c_F_R_expect l D cI cJ cZ cP cS po rd ri rl (rz) (rc) (q_3) (q_4) (rt) (ru) fl (32) hy0 hy1 hy2 hy3 hbq_3.1 hbq_3.2 (by omega) hbq_4.1 hbq_4.2 hy9 hy10 hy11 hy12 H.size) (cwV 1 hts gX3_readItem_X3_expect rfl rfl rfl ⟨rfl, dh_X3_expect⟩ ⟨Nat.le_of_ble_eq_true rfl, Nat.le_of_ble_eq_true rfl⟩) hK hN (hZ.kept hS) hP hD hS hA [1, 2] [0] rfl rfl (by decide) (by decide) (by decide) (va_recv (q := (RX3, TX3, 8)) hK hP (ci := 3) (q0 := 1) rfl rfl) rfl hl.1 rfl (Nat.le_of_ble_eq_true rfl) dX3_readItem_31 ⟨Nat.le_of_ble_eq_true rfl, Nat.le_of_ble_eq_true rfl⟩ (fun u_258 H locs hr_257 hP hD hS => ?_)
        obtain ⟨q_259, q_260⟩ := u_258
        try dsimp only at hr_257
        obtain ⟨hbq_259, hbq_260, hsr_257_0, hsr_257_1, hr_257⟩ := hr_257
        have h9R := zRe (ws' := [(ri, .inl (cI, 132, .inl (upd fi slot.toNatClampNeg 8))), (rd, .inr (3, [.ref ri, .ref rl, .int rz, .int rc, .int q_259, .int q_260, .int rt, .int ru])), (rl, .inl (cI, 160, .inl fl))]) hP hD rfl
        clear hP hD
        obtain ⟨hP, hD⟩ := h9R
        refine lv_aload_n hx hb dX3_readItem_34 rfl (lv_at hl 2 rfl) ?_
        refine va_get (D := D) (ci := 3) (v := .int q_260) (C := RX3) (T := TX3) (N := 8) hx hb hts hi_X3_readItem_3 hown hK hP 1 rfl rfl 5 (by decide) (hts (.fieldLink RX3 28 "TheLiningsInIt$Reader" "fault" "I") (List.mem_of_getElem? (i := 2) rfl)) (fun _ h9 => h9) rfl dX3_readItem_35 ?_
        refine lv_iconst (v := (-1)) hx hb dX3_readItem_38 (by decide) ?_
        refine lv_icmp_ne (tgt := 67) hx hb dX3_readItem_39 (by decide) (fun c_261 => ?_) (fun c_261 => ?_)
        · have fc_261 : q_260.toInt ≠ (-1) := zf_ne c_261 rfl (by decide)
          have hn0 : zN1 fl rz.toInt (q_3 : Int32).toInt (zLo 8 0) (zHi 8 0 rt.toInt) = ((q_3 : Int32).toInt, (q_3 : Int32).toInt, 0) := zN1_no (by omega)
          refine lv_aload_n hx hb dX3_readItem_67 rfl (lv_at hl 2 rfl) ?_
          refine va_get (D := D) (ci := 3) (v := .int q_260) (C := RX3) (T := TX3) (N := 8) hx hb hts hi_X3_readItem_3 hown hK hP 1 rfl rfl 5 (by decide) (hts (.fieldLink RX3 28 "TheLiningsInIt$Reader" "fault" "I") (List.mem_of_getElem? (i := 2) rfl)) (fun _ h9 => h9) rfl dX3_readItem_68 ?_
          refine lv_iconst (v := (-1)) hx hb dX3_readItem_71 (by decide) ?_
          refine lv_icmp_eq (tgt := 76) hx hb dX3_readItem_72 (by decide) (fun c_262 => ?_) (fun c_262 => ?_)
          · exfalso; have fc_262 : q_260.toInt = (-1) := zf_eq c_262 rfl (by decide); omega
          · have fc_262 : q_260.toInt ≠ (-1) := zf_ne c_262 rfl (by decide)
            have e0 : slot.toNatClampNeg = slot.toInt.toNat + 0 := (by show (slot : Int32).toInt.toNat = _; omega)
            have hI := zIn_a hn0 (by first | (right; decide) | (left; omega))
            exact W.vret hx hb hr (fun t ht hW => ⟨⟨(q_259, q_260, rt, ru, (upd fi slot.toNatClampNeg 8)), rfl, ⟨(show 0 ≤ q_259.toInt ∧ q_259.toInt ≤ 160 from hbq_259), (show (-1) ≤ q_260.toInt ∧ q_260.toInt ≤ 160 from hbq_260), (show 0 ≤ rt.toInt ∧ rt.toInt ≤ 40 from ⟨hy9, hy10⟩), (show 0 ≤ ru.toInt ∧ ru.toInt ≤ 8 from ⟨hy11, hy12⟩), (show q_259.toInt ≤ rz.toInt from by omega), (show (q_260.toInt = -1 → zIt (upd fi slot.toNatClampNeg 8) slot.toInt.toNat) from by (intro h; exfalso; omega)), (show (∀ j : Nat, j < slot.toInt.toNat → (upd fi slot.toNatClampNeg 8) j = fi j) from by (intro j hj; simp only [upd]; rw [if_neg (by omega)])), (show (q_260.toInt = (zItem fl rz.toInt rp.toInt rt.toInt ru.toInt).1 ∧ (q_260.toInt = -1 → q_259.toInt = (zItem fl rz.toInt rp.toInt rt.toInt ru.toInt).2.1 ∧ rt.toInt = (zItem fl rz.toInt rp.toInt rt.toInt ru.toInt).2.2.1 ∧ ru.toInt = (zItem fl rz.toInt rp.toInt rt.toInt ru.toInt).2.2.2)) from by (have z9 := hsr_1_1; rw [kc8] at z9; have hq : zFst fl rz.toInt rp.toInt zWds 10 = 8 ∧ ¬ ((8 : Int) = 3 ∧ ru.toInt = 8) := (by omega); have hl9 : (q_3 : Int32).toInt = rp.toInt + ((zWds ((8 : Int)).toNat).length : Nat) := (by omega); rw [zItem_w hq.1 (by decide) hq.2 hl9 hI]; dsimp only; exact ⟨by (first | rfl | omega), fun h => ⟨by (first | rfl | omega), by (show _ = (if (8 : Int) = 0 then _ else _); rw [if_neg (by decide)]), by (show _ = (if (8 : Int) = 3 then _ else _); rw [if_neg (by decide)])⟩⟩)), (show (q_260.toInt = -1 → (((upd fi slot.toNatClampNeg 8) slot.toInt.toNat).toInt = 0 → rt.toInt = ((upd fi slot.toNatClampNeg 8) (slot.toInt.toNat + 1)).toInt) ∧ (((upd fi slot.toNatClampNeg 8) slot.toInt.toNat).toInt ≠ 0 → rt.toInt = rt.toInt) ∧ (((upd fi slot.toNatClampNeg 8) slot.toInt.toNat).toInt = 3 → ru.toInt = ru.toInt + 1) ∧ (((upd fi slot.toNatClampNeg 8) slot.toInt.toNat).toInt ≠ 3 → ru.toInt = ru.toInt)) from by (intro h; exfalso; omega)), (show (q_260.toInt = -1 → zSm (zDS (upd fi slot.toNatClampNeg 8) slot.toInt.toNat) (zIm fl rz.toInt rp.toInt rt.toInt)) from by (intro h; exfalso; omega)), trivial⟩, zRet ht hP hD [1, 2, 0] (by decide) rfl⟩, hS.F ht⟩) hS.2.2 dX3_readItem_75
        · have fc_261 : q_260.toInt = (-1) := zf_eq c_261 rfl (by decide)
          refine lv_aload_n hx hb dX3_readItem_42 rfl (lv_at hl 2 rfl) ?_
          refine va_get (D := D) (ci := 3) (v := .ref ri) (C := RX3) (T := TX3) (N := 8) hx hb hts hi_X3_readItem_3 hown hK hP 1 rfl rfl 0 (by decide) (hts (.fieldLink RX3 11 "TheLiningsInIt$Reader" "items" "[I") (List.mem_of_getElem? (i := 1) rfl)) (fun _ h9 => h9) rfl dX3_readItem_43 ?_
          refine lv_iload_n hx hb dX3_readItem_46 rfl (lv_at hl 3 rfl) ?_
          refine lv_iconst (v := 1) hx hb dX3_readItem_47 (by decide) ?_
          refine lv_iadd hx hb dX3_readItem_48 ?_
          refine lv_topi (fun x_263 ex_263 => ?_)
          have qx_263 : x_263.toInt = slot.toInt + 1 := by rw [ex_263]; exact zf_add rfl (by decide) (by omega) (by omega)
          refine lv_iload_n hx hb dX3_readItem_49 rfl (lv_at hl 0 rfl) ?_
          refine lv_iadd hx hb dX3_readItem_50 ?_
          refine lv_topi (fun y_264 ey_264 => ?_)
          obtain rfl : x_263 = y_264 := (ey_264.trans (Int32.add_zero x_263)).symm
          refine lv_aload_n hx hb dX3_readItem_51 rfl (lv_at hl 2 rfl) ?_
          refine lv_iload_n hx hb dX3_readItem_52 rfl (lv_at hl 1 rfl) ?_
          refine lv_iload_n hx hb dX3_readItem_53 rfl (lv_at hl 0 rfl) ?_
          refine zc_S (As := [.int 8, .int 0]) (rest := [.ref rd, .int x_263, .ref ri]) ⟨hx, hb, hml, hown, hts⟩ (c_R_leastOf_8_0 l D cI cJ cZ cP cS po  ) (va_cwS 2 hts gX3_readItem_X3_leastOf rfl rfl rfl dh_X3_leastOf ⟨Nat.le_of_ble_eq_true rfl, Nat.le_of_ble_eq_true rfl⟩) hK hN (hZ.kept hS) rfl hl.1 rfl (Nat.le_of_ble_eq_true rfl) dX3_readItem_54 ⟨Nat.le_of_ble_eq_true rfl, Nat.le_of_ble_eq_true rfl⟩ (fun r_265 hr_265 => ?_)
          obtain rfl := hr_265
          refine lv_aload_n hx hb dX3_readItem_57 rfl (lv_at hl 2 rfl) ?_
          refine lv_iload_n hx hb dX3_readItem_58 rfl (lv_at hl 1 rfl) ?_
          refine lv_iload_n hx hb dX3_readItem_59 rfl (lv_at hl 0 rfl) ?_
          refine zc_V (As := [.int 8, .int 0]) (rest := [.int 0, .ref rd, .int x_263, .ref ri]) ⟨hx, hb, hml, hown, hts⟩ (c_R_mostOf_8_0 l D cI cJ cZ cP cS po rd ri rl (rz) (rc) (q_259) (q_260) (rt) (ru) hy0 hy1 hy2 hy3 hbq_259.1 hbq_259.2 (by omega) hbq_260.1 hbq_260.2 hy9 hy10 hy11 hy12) (cwV 2 hts gX3_readItem_X3_mostOf rfl rfl rfl ⟨rfl, dh_X3_mostOf⟩ ⟨Nat.le_of_ble_eq_true rfl, Nat.le_of_ble_eq_true rfl⟩) hK hN (hZ.kept hS) hP (hP.sub [1] rfl) (va_recv (q := (RX3, TX3, 8)) hK hP (ci := 3) (q0 := 1) rfl rfl) rfl hl.1 rfl (Nat.le_of_ble_eq_true rfl) dX3_readItem_60 ⟨Nat.le_of_ble_eq_true rfl, Nat.le_of_ble_eq_true rfl⟩ (fun r_266 hr_266 => ?_)
          obtain rfl := hr_266
          have kc0 : (0 : Int32).toInt = 0 := by decide
          have kc2 : (2 : Int32).toInt = 2 := by decide
          skip
          refine zw_V (As := [.int 0, .int 2]) (rest := [.int x_263, .ref ri]) (wr := [(ri, .inl (cI, 132, .inl (upd fi slot.toNatClampNeg 8)))]) ⟨hx, hb, hml, hown, hts⟩ (c_F_R_readNumber l D cI cJ cZ cP cS po rd ri rl (rz) (rc) (q_259) (q_260) (rt) (ru) fl (0) (2) hy0 hy1 hy2 hy3 hbq_259.1 hbq_259.2 (by omega) hbq_260.1 hbq_260.2 hy9 hy10 hy11 hy12 H.size) (cwV 2 hts gX3_readItem_X3_readNumber rfl rfl rfl ⟨rfl, dh_X3_readNumber⟩ ⟨Nat.le_of_ble_eq_true rfl, Nat.le_of_ble_eq_true rfl⟩) hK hN (hZ.kept hS) hP hD hS hA [1, 2] [0] rfl rfl (by decide) (by decide) (by decide) (va_recv (q := (RX3, TX3, 8)) hK hP (ci := 3) (q0 := 1) rfl rfl) rfl hl.1 rfl (Nat.le_of_ble_eq_true rfl) dX3_readItem_63 ⟨Nat.le_of_ble_eq_true rfl, Nat.le_of_ble_eq_true rfl⟩ (fun r_267 u_268 H locs hr_267 hP hD hS => ?_)
          obtain ⟨q_269, q_270⟩ := u_268
          try dsimp only at hr_267
          obtain ⟨hbq_269, hbq_270, hsr_267_0, hsr_267_1, hsr_267_2, hsr_267_3, hr_267⟩ := hr_267
          have h9R := zRe (ws' := [(ri, .inl (cI, 132, .inl (upd fi slot.toNatClampNeg 8))), (rd, .inr (3, [.ref ri, .ref rl, .int rz, .int rc, .int q_269, .int q_270, .int rt, .int ru])), (rl, .inl (cI, 160, .inl fl))]) hP hD rfl
          clear hP hD
          obtain ⟨hP, hD⟩ := h9R
          obtain ⟨g_271, g_272⟩ := hr_267
          refine va_iast hx hb hK hP hD hS 0 0 rfl rfl (zf_in (by omega) (by omega)) dX3_readItem_66 (fun H locs hP hD hS => ?_)
          have h9R := zRe (ws' := [(ri, .inl (cI, 132, .inl (upd (upd fi slot.toNatClampNeg 8) x_263.toNatClampNeg r_267))), (rd, .inr (3, [.ref ri, .ref rl, .int rz, .int rc, .int q_269, .int q_270, .int rt, .int ru])), (rl, .inl (cI, 160, .inl fl))]) hP hD rfl
          clear hP hD
          obtain ⟨hP, hD⟩ := h9R
          have hn0 : zN1 fl rz.toInt (q_3 : Int32).toInt (zLo 8 0) (zHi 8 0 rt.toInt) = ((q_270 : Int32).toInt, (q_269 : Int32).toInt, r_267.toInt) := zN1_yes (p1 := (q_259 : Int32).toInt) (lo2 := ((0 : Int32)).toInt) (hi2 := ((2 : Int32)).toInt) (by omega) (by omega) hsr_267_1 hsr_267_2 (by first | decide | (show (0 : Int) = _; omega)) (by first | decide | (show (2 : Int) = _; decide) | (show rt.toInt - 1 = _; omega) | (show rt.toInt = _; omega)) (by omega)
          refine lv_aload_n hx hb dX3_readItem_67 rfl (lv_at hl 2 rfl) ?_
          refine va_get (D := D) (ci := 3) (v := .int q_270) (C := RX3) (T := TX3) (N := 8) hx hb hts hi_X3_readItem_3 hown hK hP 1 rfl rfl 5 (by decide) (hts (.fieldLink RX3 28 "TheLiningsInIt$Reader" "fault" "I") (List.mem_of_getElem? (i := 2) rfl)) (fun _ h9 => h9) rfl dX3_readItem_68 ?_
          refine lv_iconst (v := (-1)) hx hb dX3_readItem_71 (by decide) ?_
          refine lv_icmp_eq (tgt := 76) hx hb dX3_readItem_72 (by decide) (fun c_273 => ?_) (fun c_273 => ?_)
          · have fc_273 : q_270.toInt = (-1) := zf_eq c_273 rfl (by decide)
            refine lv_iinc (v := 1) (lv' := [(3, .int 1), (2, .int 8), (0, .ref rd), (1, .int slot)]) hx hb dX3_readItem_76 hl (k := 0) rfl (by decide) (by decide) rfl (fun ls hl => ?_)
            refine lv_goto (tgt := 20) hx hb dX3_readItem_79 (by decide) ?_
            refine lv_iload_n hx hb dX3_readItem_20 rfl (lv_at hl 0 rfl) ?_
            refine lv_iload_n hx hb dX3_readItem_21 rfl (lv_at hl 1 rfl) ?_
            refine zc_S (As := [.int 8]) (rest := [.int 1]) ⟨hx, hb, hml, hown, hts⟩ (c_R_numbersOf_8 l D cI cJ cZ cP cS po  ) (va_cwS 1 hts gX3_readItem_X3_numbersOf rfl rfl rfl dh_X3_numbersOf ⟨Nat.le_of_ble_eq_true rfl, Nat.le_of_ble_eq_true rfl⟩) hK hN (hZ.kept hS) rfl hl.1 rfl (Nat.le_of_ble_eq_true rfl) dX3_readItem_22 ⟨Nat.le_of_ble_eq_true rfl, Nat.le_of_ble_eq_true rfl⟩ (fun r_274 hr_274 => ?_)
            obtain rfl := hr_274
            refine lv_icmp_ge (tgt := 82) hx hb dX3_readItem_25 (by decide) (fun c_275 => ?_) (fun c_275 => ?_)
            · exact absurd c_275 (by decide)
            · refine lv_aload_n hx hb dX3_readItem_28 rfl (lv_at hl 2 rfl) ?_
              refine lv_bipush (v := 32) hx hb dX3_readItem_29 (by decide) ?_
              skip
              refine zw_Vv (As := [.int 32]) (rest := []) (wr := [(ri, .inl (cI, 132, .inl (upd (upd fi slot.toNatClampNeg 8) x_263.toNatClampNeg r_267)))]) ⟨hx, hb, hml, hown, hts⟩ (c_F_R_expect l D cI cJ cZ cP cS po rd ri rl (rz) (rc) (q_269) (q_270) (rt) (ru) fl (32) hy0 hy1 hy2 hy3 hbq_269.1 hbq_269.2 (by omega) hbq_270.1 hbq_270.2 hy9 hy10 hy11 hy12 H.size) (cwV 1 hts gX3_readItem_X3_expect rfl rfl rfl ⟨rfl, dh_X3_expect⟩ ⟨Nat.le_of_ble_eq_true rfl, Nat.le_of_ble_eq_true rfl⟩) hK hN (hZ.kept hS) hP hD hS hA [1, 2] [0] rfl rfl (by decide) (by decide) (by decide) (va_recv (q := (RX3, TX3, 8)) hK hP (ci := 3) (q0 := 1) rfl rfl) rfl hl.1 rfl (Nat.le_of_ble_eq_true rfl) dX3_readItem_31 ⟨Nat.le_of_ble_eq_true rfl, Nat.le_of_ble_eq_true rfl⟩ (fun u_277 H locs hr_276 hP hD hS => ?_)
              obtain ⟨q_278, q_279⟩ := u_277
              try dsimp only at hr_276
              obtain ⟨hbq_278, hbq_279, hsr_276_0, hsr_276_1, hr_276⟩ := hr_276
              have h9R := zRe (ws' := [(ri, .inl (cI, 132, .inl (upd (upd fi slot.toNatClampNeg 8) x_263.toNatClampNeg r_267))), (rd, .inr (3, [.ref ri, .ref rl, .int rz, .int rc, .int q_278, .int q_279, .int rt, .int ru])), (rl, .inl (cI, 160, .inl fl))]) hP hD rfl
              clear hP hD
              obtain ⟨hP, hD⟩ := h9R
              refine lv_aload_n hx hb dX3_readItem_34 rfl (lv_at hl 2 rfl) ?_
              refine va_get (D := D) (ci := 3) (v := .int q_279) (C := RX3) (T := TX3) (N := 8) hx hb hts hi_X3_readItem_3 hown hK hP 1 rfl rfl 5 (by decide) (hts (.fieldLink RX3 28 "TheLiningsInIt$Reader" "fault" "I") (List.mem_of_getElem? (i := 2) rfl)) (fun _ h9 => h9) rfl dX3_readItem_35 ?_
              refine lv_iconst (v := (-1)) hx hb dX3_readItem_38 (by decide) ?_
              refine lv_icmp_ne (tgt := 67) hx hb dX3_readItem_39 (by decide) (fun c_280 => ?_) (fun c_280 => ?_)
              · have fc_280 : q_279.toInt ≠ (-1) := zf_ne c_280 rfl (by decide)
                have hn1 : zN1 fl rz.toInt (q_269 : Int32).toInt (zLo 8 1) (zHi 8 1 rt.toInt) = ((q_269 : Int32).toInt, (q_269 : Int32).toInt, 0) := zN1_no (by omega)
                refine lv_aload_n hx hb dX3_readItem_67 rfl (lv_at hl 2 rfl) ?_
                refine va_get (D := D) (ci := 3) (v := .int q_279) (C := RX3) (T := TX3) (N := 8) hx hb hts hi_X3_readItem_3 hown hK hP 1 rfl rfl 5 (by decide) (hts (.fieldLink RX3 28 "TheLiningsInIt$Reader" "fault" "I") (List.mem_of_getElem? (i := 2) rfl)) (fun _ h9 => h9) rfl dX3_readItem_68 ?_
                refine lv_iconst (v := (-1)) hx hb dX3_readItem_71 (by decide) ?_
                refine lv_icmp_eq (tgt := 76) hx hb dX3_readItem_72 (by decide) (fun c_281 => ?_) (fun c_281 => ?_)
                · exfalso; have fc_281 : q_279.toInt = (-1) := zf_eq c_281 rfl (by decide); omega
                · have fc_281 : q_279.toInt ≠ (-1) := zf_ne c_281 rfl (by decide)
                  have e0 : slot.toNatClampNeg = slot.toInt.toNat + 0 := (by show (slot : Int32).toInt.toNat = _; omega)
                  have e1 : x_263.toNatClampNeg = slot.toInt.toNat + 1 := (by show (x_263 : Int32).toInt.toNat = _; omega)
                  have hI := zIn_b (by have z := hn0; rw [show (q_270 : Int32).toInt = -1 from by omega] at z; exact z) (by decide) hn1 (by first | (right; decide) | (left; omega))
                  exact W.vret hx hb hr (fun t ht hW => ⟨⟨(q_278, q_279, rt, ru, (upd (upd fi slot.toNatClampNeg 8) x_263.toNatClampNeg r_267)), rfl, ⟨(show 0 ≤ q_278.toInt ∧ q_278.toInt ≤ 160 from hbq_278), (show (-1) ≤ q_279.toInt ∧ q_279.toInt ≤ 160 from hbq_279), (show 0 ≤ rt.toInt ∧ rt.toInt ≤ 40 from ⟨hy9, hy10⟩), (show 0 ≤ ru.toInt ∧ ru.toInt ≤ 8 from ⟨hy11, hy12⟩), (show q_278.toInt ≤ rz.toInt from by omega), (show (q_279.toInt = -1 → zIt (upd (upd fi slot.toNatClampNeg 8) x_263.toNatClampNeg r_267) slot.toInt.toNat) from by (intro h; exfalso; omega)), (show (∀ j : Nat, j < slot.toInt.toNat → (upd (upd fi slot.toNatClampNeg 8) x_263.toNatClampNeg r_267) j = fi j) from by (intro j hj; simp only [upd]; rw [if_neg (by omega), if_neg (by omega)])), (show (q_279.toInt = (zItem fl rz.toInt rp.toInt rt.toInt ru.toInt).1 ∧ (q_279.toInt = -1 → q_278.toInt = (zItem fl rz.toInt rp.toInt rt.toInt ru.toInt).2.1 ∧ rt.toInt = (zItem fl rz.toInt rp.toInt rt.toInt ru.toInt).2.2.1 ∧ ru.toInt = (zItem fl rz.toInt rp.toInt rt.toInt ru.toInt).2.2.2)) from by (have z9 := hsr_1_1; rw [kc8] at z9; have hq : zFst fl rz.toInt rp.toInt zWds 10 = 8 ∧ ¬ ((8 : Int) = 3 ∧ ru.toInt = 8) := (by omega); have hl9 : (q_3 : Int32).toInt = rp.toInt + ((zWds ((8 : Int)).toNat).length : Nat) := (by omega); rw [zItem_w hq.1 (by decide) hq.2 hl9 hI]; dsimp only; exact ⟨by (first | rfl | omega), fun h => ⟨by (first | rfl | omega), by (show _ = (if (8 : Int) = 0 then _ else _); rw [if_neg (by decide)]), by (show _ = (if (8 : Int) = 3 then _ else _); rw [if_neg (by decide)])⟩⟩)), (show (q_279.toInt = -1 → (((upd (upd fi slot.toNatClampNeg 8) x_263.toNatClampNeg r_267) slot.toInt.toNat).toInt = 0 → rt.toInt = ((upd (upd fi slot.toNatClampNeg 8) x_263.toNatClampNeg r_267) (slot.toInt.toNat + 1)).toInt) ∧ (((upd (upd fi slot.toNatClampNeg 8) x_263.toNatClampNeg r_267) slot.toInt.toNat).toInt ≠ 0 → rt.toInt = rt.toInt) ∧ (((upd (upd fi slot.toNatClampNeg 8) x_263.toNatClampNeg r_267) slot.toInt.toNat).toInt = 3 → ru.toInt = ru.toInt + 1) ∧ (((upd (upd fi slot.toNatClampNeg 8) x_263.toNatClampNeg r_267) slot.toInt.toNat).toInt ≠ 3 → ru.toInt = ru.toInt)) from by (intro h; exfalso; omega)), (show (q_279.toInt = -1 → zSm (zDS (upd (upd fi slot.toNatClampNeg 8) x_263.toNatClampNeg r_267) slot.toInt.toNat) (zIm fl rz.toInt rp.toInt rt.toInt)) from by (intro h; exfalso; omega)), trivial⟩, zRet ht hP hD [1, 2, 0] (by decide) rfl⟩, hS.F ht⟩) hS.2.2 dX3_readItem_75
              · have fc_280 : q_279.toInt = (-1) := zf_eq c_280 rfl (by decide)
                refine lv_aload_n hx hb dX3_readItem_42 rfl (lv_at hl 2 rfl) ?_
                refine va_get (D := D) (ci := 3) (v := .ref ri) (C := RX3) (T := TX3) (N := 8) hx hb hts hi_X3_readItem_3 hown hK hP 1 rfl rfl 0 (by decide) (hts (.fieldLink RX3 11 "TheLiningsInIt$Reader" "items" "[I") (List.mem_of_getElem? (i := 1) rfl)) (fun _ h9 => h9) rfl dX3_readItem_43 ?_
                refine lv_iload_n hx hb dX3_readItem_46 rfl (lv_at hl 3 rfl) ?_
                refine lv_iconst (v := 1) hx hb dX3_readItem_47 (by decide) ?_
                refine lv_iadd hx hb dX3_readItem_48 ?_
                refine lv_topi (fun y_282 ey_282 => ?_)
                obtain rfl : x_263 = y_282 := ex_263.trans ey_282.symm
                refine lv_iload_n hx hb dX3_readItem_49 rfl (lv_at hl 0 rfl) ?_
                refine lv_iadd hx hb dX3_readItem_50 ?_
                refine lv_topi (fun x_283 ex_283 => ?_)
                have qx_283 : x_283.toInt = x_263.toInt + 1 := by rw [ex_283]; exact zf_add rfl (by decide) (by omega) (by omega)
                refine lv_aload_n hx hb dX3_readItem_51 rfl (lv_at hl 2 rfl) ?_
                refine lv_iload_n hx hb dX3_readItem_52 rfl (lv_at hl 1 rfl) ?_
                refine lv_iload_n hx hb dX3_readItem_53 rfl (lv_at hl 0 rfl) ?_
                refine zc_S (As := [.int 8, .int 1]) (rest := [.ref rd, .int x_283, .ref ri]) ⟨hx, hb, hml, hown, hts⟩ (c_R_leastOf_8_1 l D cI cJ cZ cP cS po  ) (va_cwS 2 hts gX3_readItem_X3_leastOf rfl rfl rfl dh_X3_leastOf ⟨Nat.le_of_ble_eq_true rfl, Nat.le_of_ble_eq_true rfl⟩) hK hN (hZ.kept hS) rfl hl.1 rfl (Nat.le_of_ble_eq_true rfl) dX3_readItem_54 ⟨Nat.le_of_ble_eq_true rfl, Nat.le_of_ble_eq_true rfl⟩ (fun r_284 hr_284 => ?_)
                obtain rfl := hr_284
                refine lv_aload_n hx hb dX3_readItem_57 rfl (lv_at hl 2 rfl) ?_
                refine lv_iload_n hx hb dX3_readItem_58 rfl (lv_at hl 1 rfl) ?_
                refine lv_iload_n hx hb dX3_readItem_59 rfl (lv_at hl 0 rfl) ?_
                refine zc_V (As := [.int 8, .int 1]) (rest := [.int 0, .ref rd, .int x_283, .ref ri]) ⟨hx, hb, hml, hown, hts⟩ (c_R_mostOf_8_1 l D cI cJ cZ cP cS po rd ri rl (rz) (rc) (q_278) (q_279) (rt) (ru) hy0 hy1 hy2 hy3 hbq_278.1 hbq_278.2 (by omega) hbq_279.1 hbq_279.2 hy9 hy10 hy11 hy12) (cwV 2 hts gX3_readItem_X3_mostOf rfl rfl rfl ⟨rfl, dh_X3_mostOf⟩ ⟨Nat.le_of_ble_eq_true rfl, Nat.le_of_ble_eq_true rfl⟩) hK hN (hZ.kept hS) hP (hP.sub [1] rfl) (va_recv (q := (RX3, TX3, 8)) hK hP (ci := 3) (q0 := 1) rfl rfl) rfl hl.1 rfl (Nat.le_of_ble_eq_true rfl) dX3_readItem_60 ⟨Nat.le_of_ble_eq_true rfl, Nat.le_of_ble_eq_true rfl⟩ (fun r_285 hr_285 => ?_)
                obtain rfl := hr_285
                have kc99 : (99 : Int32).toInt = 99 := by decide
                skip
                refine zw_V (As := [.int 0, .int 99]) (rest := [.int x_283, .ref ri]) (wr := [(ri, .inl (cI, 132, .inl (upd (upd fi slot.toNatClampNeg 8) x_263.toNatClampNeg r_267)))]) ⟨hx, hb, hml, hown, hts⟩ (c_F_R_readNumber l D cI cJ cZ cP cS po rd ri rl (rz) (rc) (q_278) (q_279) (rt) (ru) fl (0) (99) hy0 hy1 hy2 hy3 hbq_278.1 hbq_278.2 (by omega) hbq_279.1 hbq_279.2 hy9 hy10 hy11 hy12 H.size) (cwV 2 hts gX3_readItem_X3_readNumber rfl rfl rfl ⟨rfl, dh_X3_readNumber⟩ ⟨Nat.le_of_ble_eq_true rfl, Nat.le_of_ble_eq_true rfl⟩) hK hN (hZ.kept hS) hP hD hS hA [1, 2] [0] rfl rfl (by decide) (by decide) (by decide) (va_recv (q := (RX3, TX3, 8)) hK hP (ci := 3) (q0 := 1) rfl rfl) rfl hl.1 rfl (Nat.le_of_ble_eq_true rfl) dX3_readItem_63 ⟨Nat.le_of_ble_eq_true rfl, Nat.le_of_ble_eq_true rfl⟩ (fun r_286 u_287 H locs hr_286 hP hD hS => ?_)
                obtain ⟨q_288, q_289⟩ := u_287
                try dsimp only at hr_286
                obtain ⟨hbq_288, hbq_289, hsr_286_0, hsr_286_1, hsr_286_2, hsr_286_3, hr_286⟩ := hr_286
                have h9R := zRe (ws' := [(ri, .inl (cI, 132, .inl (upd (upd fi slot.toNatClampNeg 8) x_263.toNatClampNeg r_267))), (rd, .inr (3, [.ref ri, .ref rl, .int rz, .int rc, .int q_288, .int q_289, .int rt, .int ru])), (rl, .inl (cI, 160, .inl fl))]) hP hD rfl
                clear hP hD
                obtain ⟨hP, hD⟩ := h9R
                obtain ⟨g_290, g_291⟩ := hr_286
                refine va_iast hx hb hK hP hD hS 0 0 rfl rfl (zf_in (by omega) (by omega)) dX3_readItem_66 (fun H locs hP hD hS => ?_)
                have h9R := zRe (ws' := [(ri, .inl (cI, 132, .inl (upd (upd (upd fi slot.toNatClampNeg 8) x_263.toNatClampNeg r_267) x_283.toNatClampNeg r_286))), (rd, .inr (3, [.ref ri, .ref rl, .int rz, .int rc, .int q_288, .int q_289, .int rt, .int ru])), (rl, .inl (cI, 160, .inl fl))]) hP hD rfl
                clear hP hD
                obtain ⟨hP, hD⟩ := h9R
                have hn1 : zN1 fl rz.toInt (q_269 : Int32).toInt (zLo 8 1) (zHi 8 1 rt.toInt) = ((q_289 : Int32).toInt, (q_288 : Int32).toInt, r_286.toInt) := zN1_yes (p1 := (q_278 : Int32).toInt) (lo2 := ((0 : Int32)).toInt) (hi2 := ((99 : Int32)).toInt) (by omega) (by omega) hsr_286_1 hsr_286_2 (by first | decide | (show (0 : Int) = _; omega)) (by first | decide | (show (99 : Int) = _; decide) | (show rt.toInt - 1 = _; omega) | (show rt.toInt = _; omega)) (by omega)
                refine lv_aload_n hx hb dX3_readItem_67 rfl (lv_at hl 2 rfl) ?_
                refine va_get (D := D) (ci := 3) (v := .int q_289) (C := RX3) (T := TX3) (N := 8) hx hb hts hi_X3_readItem_3 hown hK hP 1 rfl rfl 5 (by decide) (hts (.fieldLink RX3 28 "TheLiningsInIt$Reader" "fault" "I") (List.mem_of_getElem? (i := 2) rfl)) (fun _ h9 => h9) rfl dX3_readItem_68 ?_
                refine lv_iconst (v := (-1)) hx hb dX3_readItem_71 (by decide) ?_
                refine lv_icmp_eq (tgt := 76) hx hb dX3_readItem_72 (by decide) (fun c_292 => ?_) (fun c_292 => ?_)
                · have fc_292 : q_289.toInt = (-1) := zf_eq c_292 rfl (by decide)
                  refine lv_iinc (v := 2) (lv' := [(3, .int 2), (2, .int 8), (0, .ref rd), (1, .int slot)]) hx hb dX3_readItem_76 hl (k := 0) rfl (by decide) (by decide) rfl (fun ls hl => ?_)
                  refine lv_goto (tgt := 20) hx hb dX3_readItem_79 (by decide) ?_
                  refine lv_iload_n hx hb dX3_readItem_20 rfl (lv_at hl 0 rfl) ?_
                  refine lv_iload_n hx hb dX3_readItem_21 rfl (lv_at hl 1 rfl) ?_
                  refine zc_S (As := [.int 8]) (rest := [.int 2]) ⟨hx, hb, hml, hown, hts⟩ (c_R_numbersOf_8 l D cI cJ cZ cP cS po  ) (va_cwS 1 hts gX3_readItem_X3_numbersOf rfl rfl rfl dh_X3_numbersOf ⟨Nat.le_of_ble_eq_true rfl, Nat.le_of_ble_eq_true rfl⟩) hK hN (hZ.kept hS) rfl hl.1 rfl (Nat.le_of_ble_eq_true rfl) dX3_readItem_22 ⟨Nat.le_of_ble_eq_true rfl, Nat.le_of_ble_eq_true rfl⟩ (fun r_293 hr_293 => ?_)
                  obtain rfl := hr_293
                  refine lv_icmp_ge (tgt := 82) hx hb dX3_readItem_25 (by decide) (fun c_294 => ?_) (fun c_294 => ?_)
                  · refine lv_iload_n hx hb dX3_readItem_82 rfl (lv_at hl 1 rfl) ?_
                    refine lv_if_ne (tgt := 101) hx hb dX3_readItem_83 (by decide) (fun c_295 => ?_) (fun c_295 => ?_)
                    · refine lv_iload_n hx hb dX3_readItem_101 rfl (lv_at hl 1 rfl) ?_
                      refine lv_iconst (v := 3) hx hb dX3_readItem_102 (by decide) ?_
                      refine lv_icmp_ne (tgt := 116) hx hb dX3_readItem_103 (by decide) (fun c_296 => ?_) (fun c_296 => ?_)
                      · have e0 : slot.toNatClampNeg = slot.toInt.toNat + 0 := (by show (slot : Int32).toInt.toNat = _; omega)
                        have e1 : x_263.toNatClampNeg = slot.toInt.toNat + 1 := (by show (x_263 : Int32).toInt.toNat = _; omega)
                        have e2 : x_283.toNatClampNeg = slot.toInt.toNat + 2 := (by show (x_283 : Int32).toInt.toNat = _; omega)
                        have hI := zIn_b (by have z := hn0; rw [show (q_270 : Int32).toInt = -1 from by omega] at z; exact z) (by decide) hn1 (by first | (right; decide) | (left; omega))
                        exact W.vret hx hb hr (fun t ht hW => ⟨⟨(q_288, q_289, rt, ru, (upd (upd (upd fi slot.toNatClampNeg 8) x_263.toNatClampNeg r_267) x_283.toNatClampNeg r_286)), rfl, ⟨(show 0 ≤ q_288.toInt ∧ q_288.toInt ≤ 160 from hbq_288), (show (-1) ≤ q_289.toInt ∧ q_289.toInt ≤ 160 from hbq_289), (show 0 ≤ rt.toInt ∧ rt.toInt ≤ 40 from ⟨hy9, hy10⟩), (show 0 ≤ ru.toInt ∧ ru.toInt ≤ 8 from ⟨hy11, hy12⟩), (show q_288.toInt ≤ rz.toInt from by omega), (show (q_289.toInt = -1 → zIt (upd (upd (upd fi slot.toNatClampNeg 8) x_263.toNatClampNeg r_267) x_283.toNatClampNeg r_286) slot.toInt.toNat) from by (intro h; have k4 : (8 : Int32).toInt = 8 := (by decide); exact zIt_mk (by simp only [upd]; rw [if_neg (by omega), if_neg (by omega), if_pos (by omega)]) (by simp only [upd]; rw [if_neg (by omega), if_pos (by omega)]) (by simp only [upd]; rw [if_pos (by omega)]) (rfl) (by unfold zItv; refine ⟨?_, ?_, ?_, ?_, ?_, ?_, ?_, ?_, ?_, ?_, ?_⟩ <;> (intros; omega)))), (show (∀ j : Nat, j < slot.toInt.toNat → (upd (upd (upd fi slot.toNatClampNeg 8) x_263.toNatClampNeg r_267) x_283.toNatClampNeg r_286) j = fi j) from by (intro j hj; simp only [upd]; rw [if_neg (by omega), if_neg (by omega), if_neg (by omega)])), (show (q_289.toInt = (zItem fl rz.toInt rp.toInt rt.toInt ru.toInt).1 ∧ (q_289.toInt = -1 → q_288.toInt = (zItem fl rz.toInt rp.toInt rt.toInt ru.toInt).2.1 ∧ rt.toInt = (zItem fl rz.toInt rp.toInt rt.toInt ru.toInt).2.2.1 ∧ ru.toInt = (zItem fl rz.toInt rp.toInt rt.toInt ru.toInt).2.2.2)) from by (have z9 := hsr_1_1; rw [kc8] at z9; have hq : zFst fl rz.toInt rp.toInt zWds 10 = 8 ∧ ¬ ((8 : Int) = 3 ∧ ru.toInt = 8) := (by omega); have hl9 : (q_3 : Int32).toInt = rp.toInt + ((zWds ((8 : Int)).toNat).length : Nat) := (by omega); rw [zItem_w hq.1 (by decide) hq.2 hl9 hI]; dsimp only; exact ⟨by (first | rfl | omega), fun h => ⟨by (first | rfl | omega), by (show _ = (if (8 : Int) = 0 then _ else _); rw [if_neg (by decide)]), by (show _ = (if (8 : Int) = 3 then _ else _); rw [if_neg (by decide)])⟩⟩)), (show (q_289.toInt = -1 → (((upd (upd (upd fi slot.toNatClampNeg 8) x_263.toNatClampNeg r_267) x_283.toNatClampNeg r_286) slot.toInt.toNat).toInt = 0 → rt.toInt = ((upd (upd (upd fi slot.toNatClampNeg 8) x_263.toNatClampNeg r_267) x_283.toNatClampNeg r_286) (slot.toInt.toNat + 1)).toInt) ∧ (((upd (upd (upd fi slot.toNatClampNeg 8) x_263.toNatClampNeg r_267) x_283.toNatClampNeg r_286) slot.toInt.toNat).toInt ≠ 0 → rt.toInt = rt.toInt) ∧ (((upd (upd (upd fi slot.toNatClampNeg 8) x_263.toNatClampNeg r_267) x_283.toNatClampNeg r_286) slot.toInt.toNat).toInt = 3 → ru.toInt = ru.toInt + 1) ∧ (((upd (upd (upd fi slot.toNatClampNeg 8) x_263.toNatClampNeg r_267) x_283.toNatClampNeg r_286) slot.toInt.toNat).toInt ≠ 3 → ru.toInt = ru.toInt)) from by (intro h; have g0 : (upd (upd (upd fi slot.toNatClampNeg 8) x_263.toNatClampNeg r_267) x_283.toNatClampNeg r_286) slot.toInt.toNat = (8 : Int32) := (by simp only [upd]; rw [if_neg (by omega), if_neg (by omega), if_pos (by omega)]); have g1 : (upd (upd (upd fi slot.toNatClampNeg 8) x_263.toNatClampNeg r_267) x_283.toNatClampNeg r_286) (slot.toInt.toNat + 1) = (r_267 : Int32) := (by simp only [upd]; rw [if_neg (by omega), if_pos (by omega)]); rw [g0, g1]; refine ⟨?_, ?_, ?_, ?_⟩ <;> (intro h9; first | rfl | omega | (exfalso; omega)))), (show (q_289.toInt = -1 → zSm (zDS (upd (upd (upd fi slot.toNatClampNeg 8) x_263.toNatClampNeg r_267) x_283.toNatClampNeg r_286) slot.toInt.toNat) (zIm fl rz.toInt rp.toInt rt.toInt)) from by (intro h; have g0 : (upd (upd (upd fi slot.toNatClampNeg 8) x_263.toNatClampNeg r_267) x_283.toNatClampNeg r_286) (slot.toInt.toNat + 0) = (8 : Int32) := (by simp only [upd]; rw [if_neg (by omega), if_neg (by omega), if_pos (by omega)]); have g1 : (upd (upd (upd fi slot.toNatClampNeg 8) x_263.toNatClampNeg r_267) x_283.toNatClampNeg r_286) (slot.toInt.toNat + 1) = (r_267 : Int32) := (by simp only [upd]; rw [if_neg (by omega), if_pos (by omega)]); have g2 : (upd (upd (upd fi slot.toNatClampNeg 8) x_263.toNatClampNeg r_267) x_283.toNatClampNeg r_286) (slot.toInt.toNat + 2) = (r_286 : Int32) := (by simp only [upd]; rw [if_pos (by omega)]); have z9 := hsr_1_1; rw [kc8] at z9; have hW : zIW fl rz.toInt rp.toInt = 8 := (by unfold zIW; omega); have hP9 : zIP fl rz.toInt rp.toInt = (q_3 : Int32).toInt := (by unfold zIP; rw [hW]; have hl9 : (q_3 : Int32).toInt = rp.toInt + ((zWds ((8 : Int)).toNat).length : Nat) := (by omega); exact hl9.symm); exact ⟨(show ((upd (upd (upd fi slot.toNatClampNeg 8) x_263.toNatClampNeg r_267) x_283.toNatClampNeg r_286) (slot.toInt.toNat + 0)).toInt = zIW fl rz.toInt rp.toInt from by (rw [g0, hW]; omega)), (show ((upd (upd (upd fi slot.toNatClampNeg 8) x_263.toNatClampNeg r_267) x_283.toNatClampNeg r_286) (slot.toInt.toNat + 1)).toInt = (zIn fl rz.toInt (zIP fl rz.toInt rp.toInt) rt.toInt (zIW fl rz.toInt rp.toInt)).2.2 from by (rw [g1, hP9, hW, hI])), fun hz => (show ((upd (upd (upd fi slot.toNatClampNeg 8) x_263.toNatClampNeg r_267) x_283.toNatClampNeg r_286) (slot.toInt.toNat + 2)).toInt = zV2 fl rz.toInt (zIP fl rz.toInt rp.toInt) rt.toInt (zIW fl rz.toInt rp.toInt) from by (rw [g2, hP9, hW]; exact (zV2_eq hn0 hn1).symm)), fun hz => absurd (show ((upd (upd (upd fi slot.toNatClampNeg 8) x_263.toNatClampNeg r_267) x_283.toNatClampNeg r_286) (slot.toInt.toNat + 0)).toInt = 3 from hz) (by rw [g0]; omega)⟩)), trivial⟩, zRet ht hP hD [1, 2, 0] (by decide) rfl⟩, hS.F ht⟩) hS.2.2 dX3_readItem_116
                      · exact absurd c_296 (by decide)
                    · exact absurd c_295 (by decide)
                  · exact absurd c_294 (by decide)
                · have fc_292 : q_289.toInt ≠ (-1) := zf_ne c_292 rfl (by decide)
                  have e0 : slot.toNatClampNeg = slot.toInt.toNat + 0 := (by show (slot : Int32).toInt.toNat = _; omega)
                  have e1 : x_263.toNatClampNeg = slot.toInt.toNat + 1 := (by show (x_263 : Int32).toInt.toNat = _; omega)
                  have e2 : x_283.toNatClampNeg = slot.toInt.toNat + 2 := (by show (x_283 : Int32).toInt.toNat = _; omega)
                  have hI := zIn_b (by have z := hn0; rw [show (q_270 : Int32).toInt = -1 from by omega] at z; exact z) (by decide) hn1 (by first | (right; decide) | (left; omega))
                  exact W.vret hx hb hr (fun t ht hW => ⟨⟨(q_288, q_289, rt, ru, (upd (upd (upd fi slot.toNatClampNeg 8) x_263.toNatClampNeg r_267) x_283.toNatClampNeg r_286)), rfl, ⟨(show 0 ≤ q_288.toInt ∧ q_288.toInt ≤ 160 from hbq_288), (show (-1) ≤ q_289.toInt ∧ q_289.toInt ≤ 160 from hbq_289), (show 0 ≤ rt.toInt ∧ rt.toInt ≤ 40 from ⟨hy9, hy10⟩), (show 0 ≤ ru.toInt ∧ ru.toInt ≤ 8 from ⟨hy11, hy12⟩), (show q_288.toInt ≤ rz.toInt from by omega), (show (q_289.toInt = -1 → zIt (upd (upd (upd fi slot.toNatClampNeg 8) x_263.toNatClampNeg r_267) x_283.toNatClampNeg r_286) slot.toInt.toNat) from by (intro h; exfalso; omega)), (show (∀ j : Nat, j < slot.toInt.toNat → (upd (upd (upd fi slot.toNatClampNeg 8) x_263.toNatClampNeg r_267) x_283.toNatClampNeg r_286) j = fi j) from by (intro j hj; simp only [upd]; rw [if_neg (by omega), if_neg (by omega), if_neg (by omega)])), (show (q_289.toInt = (zItem fl rz.toInt rp.toInt rt.toInt ru.toInt).1 ∧ (q_289.toInt = -1 → q_288.toInt = (zItem fl rz.toInt rp.toInt rt.toInt ru.toInt).2.1 ∧ rt.toInt = (zItem fl rz.toInt rp.toInt rt.toInt ru.toInt).2.2.1 ∧ ru.toInt = (zItem fl rz.toInt rp.toInt rt.toInt ru.toInt).2.2.2)) from by (have z9 := hsr_1_1; rw [kc8] at z9; have hq : zFst fl rz.toInt rp.toInt zWds 10 = 8 ∧ ¬ ((8 : Int) = 3 ∧ ru.toInt = 8) := (by omega); have hl9 : (q_3 : Int32).toInt = rp.toInt + ((zWds ((8 : Int)).toNat).length : Nat) := (by omega); rw [zItem_w hq.1 (by decide) hq.2 hl9 hI]; dsimp only; exact ⟨by (first | rfl | omega), fun h => ⟨by (first | rfl | omega), by (show _ = (if (8 : Int) = 0 then _ else _); rw [if_neg (by decide)]), by (show _ = (if (8 : Int) = 3 then _ else _); rw [if_neg (by decide)])⟩⟩)), (show (q_289.toInt = -1 → (((upd (upd (upd fi slot.toNatClampNeg 8) x_263.toNatClampNeg r_267) x_283.toNatClampNeg r_286) slot.toInt.toNat).toInt = 0 → rt.toInt = ((upd (upd (upd fi slot.toNatClampNeg 8) x_263.toNatClampNeg r_267) x_283.toNatClampNeg r_286) (slot.toInt.toNat + 1)).toInt) ∧ (((upd (upd (upd fi slot.toNatClampNeg 8) x_263.toNatClampNeg r_267) x_283.toNatClampNeg r_286) slot.toInt.toNat).toInt ≠ 0 → rt.toInt = rt.toInt) ∧ (((upd (upd (upd fi slot.toNatClampNeg 8) x_263.toNatClampNeg r_267) x_283.toNatClampNeg r_286) slot.toInt.toNat).toInt = 3 → ru.toInt = ru.toInt + 1) ∧ (((upd (upd (upd fi slot.toNatClampNeg 8) x_263.toNatClampNeg r_267) x_283.toNatClampNeg r_286) slot.toInt.toNat).toInt ≠ 3 → ru.toInt = ru.toInt)) from by (intro h; exfalso; omega)), (show (q_289.toInt = -1 → zSm (zDS (upd (upd (upd fi slot.toNatClampNeg 8) x_263.toNatClampNeg r_267) x_283.toNatClampNeg r_286) slot.toInt.toNat) (zIm fl rz.toInt rp.toInt rt.toInt)) from by (intro h; exfalso; omega)), trivial⟩, zRet ht hP hD [1, 2, 0] (by decide) rfl⟩, hS.F ht⟩) hS.2.2 dX3_readItem_75
          · have fc_273 : q_270.toInt ≠ (-1) := zf_ne c_273 rfl (by decide)
            have e0 : slot.toNatClampNeg = slot.toInt.toNat + 0 := (by show (slot : Int32).toInt.toNat = _; omega)
            have e1 : x_263.toNatClampNeg = slot.toInt.toNat + 1 := (by show (x_263 : Int32).toInt.toNat = _; omega)
            have hI := zIn_a hn0 (by first | (right; decide) | (left; omega))
            exact W.vret hx hb hr (fun t ht hW => ⟨⟨(q_269, q_270, rt, ru, (upd (upd fi slot.toNatClampNeg 8) x_263.toNatClampNeg r_267)), rfl, ⟨(show 0 ≤ q_269.toInt ∧ q_269.toInt ≤ 160 from hbq_269), (show (-1) ≤ q_270.toInt ∧ q_270.toInt ≤ 160 from hbq_270), (show 0 ≤ rt.toInt ∧ rt.toInt ≤ 40 from ⟨hy9, hy10⟩), (show 0 ≤ ru.toInt ∧ ru.toInt ≤ 8 from ⟨hy11, hy12⟩), (show q_269.toInt ≤ rz.toInt from by omega), (show (q_270.toInt = -1 → zIt (upd (upd fi slot.toNatClampNeg 8) x_263.toNatClampNeg r_267) slot.toInt.toNat) from by (intro h; exfalso; omega)), (show (∀ j : Nat, j < slot.toInt.toNat → (upd (upd fi slot.toNatClampNeg 8) x_263.toNatClampNeg r_267) j = fi j) from by (intro j hj; simp only [upd]; rw [if_neg (by omega), if_neg (by omega)])), (show (q_270.toInt = (zItem fl rz.toInt rp.toInt rt.toInt ru.toInt).1 ∧ (q_270.toInt = -1 → q_269.toInt = (zItem fl rz.toInt rp.toInt rt.toInt ru.toInt).2.1 ∧ rt.toInt = (zItem fl rz.toInt rp.toInt rt.toInt ru.toInt).2.2.1 ∧ ru.toInt = (zItem fl rz.toInt rp.toInt rt.toInt ru.toInt).2.2.2)) from by (have z9 := hsr_1_1; rw [kc8] at z9; have hq : zFst fl rz.toInt rp.toInt zWds 10 = 8 ∧ ¬ ((8 : Int) = 3 ∧ ru.toInt = 8) := (by omega); have hl9 : (q_3 : Int32).toInt = rp.toInt + ((zWds ((8 : Int)).toNat).length : Nat) := (by omega); rw [zItem_w hq.1 (by decide) hq.2 hl9 hI]; dsimp only; exact ⟨by (first | rfl | omega), fun h => ⟨by (first | rfl | omega), by (show _ = (if (8 : Int) = 0 then _ else _); rw [if_neg (by decide)]), by (show _ = (if (8 : Int) = 3 then _ else _); rw [if_neg (by decide)])⟩⟩)), (show (q_270.toInt = -1 → (((upd (upd fi slot.toNatClampNeg 8) x_263.toNatClampNeg r_267) slot.toInt.toNat).toInt = 0 → rt.toInt = ((upd (upd fi slot.toNatClampNeg 8) x_263.toNatClampNeg r_267) (slot.toInt.toNat + 1)).toInt) ∧ (((upd (upd fi slot.toNatClampNeg 8) x_263.toNatClampNeg r_267) slot.toInt.toNat).toInt ≠ 0 → rt.toInt = rt.toInt) ∧ (((upd (upd fi slot.toNatClampNeg 8) x_263.toNatClampNeg r_267) slot.toInt.toNat).toInt = 3 → ru.toInt = ru.toInt + 1) ∧ (((upd (upd fi slot.toNatClampNeg 8) x_263.toNatClampNeg r_267) slot.toInt.toNat).toInt ≠ 3 → ru.toInt = ru.toInt)) from by (intro h; exfalso; omega)), (show (q_270.toInt = -1 → zSm (zDS (upd (upd fi slot.toNatClampNeg 8) x_263.toNatClampNeg r_267) slot.toInt.toNat) (zIm fl rz.toInt rp.toInt rt.toInt)) from by (intro h; exfalso; omega)), trivial⟩, zRet ht hP hD [1, 2, 0] (by decide) rfl⟩, hS.F ht⟩) hS.2.2 dX3_readItem_75
    · have kc9 : (9 : Int32).toInt = 9 := by decide
      refine lv_aload_n hx hb dX3_readItem_11 rfl (lv_at hl 1 rfl) ?_
      refine va_get (D := D) (ci := 3) (v := .ref ri) (C := RX3) (T := TX3) (N := 8) hx hb hts hi_X3_readItem_3 hown hK hP 1 rfl rfl 0 (by decide) (hts (.fieldLink RX3 11 "TheLiningsInIt$Reader" "items" "[I") (List.mem_of_getElem? (i := 1) rfl)) (fun _ h9 => h9) rfl dX3_readItem_12 ?_
      refine lv_iload_n hx hb dX3_readItem_15 rfl (lv_at hl 2 rfl) ?_
      refine lv_iload_n hx hb dX3_readItem_16 rfl (lv_at hl 0 rfl) ?_
      refine va_iast hx hb hK hP hD hS 0 0 rfl rfl (zf_in (by omega) (by omega)) dX3_readItem_17 (fun H locs hP hD hS => ?_)
      have h9R := zRe (ws' := [(ri, .inl (cI, 132, .inl (upd fi slot.toNatClampNeg 9))), (rd, .inr (3, [.ref ri, .ref rl, .int rz, .int rc, .int q_3, .int q_4, .int rt, .int ru])), (rl, .inl (cI, 160, .inl fl))]) hP hD rfl
      clear hP hD
      obtain ⟨hP, hD⟩ := h9R
      refine lv_iconst (v := 0) hx hb dX3_readItem_18 (by decide) ?_
      refine lv_istore_n (lv' := [(3, .int 0), (2, .int 9), (0, .ref rd), (1, .int slot)]) hx hb dX3_readItem_19 rfl hl (by decide) rfl (fun ls hl => ?_)
      refine lv_iload_n hx hb dX3_readItem_20 rfl (lv_at hl 0 rfl) ?_
      refine lv_iload_n hx hb dX3_readItem_21 rfl (lv_at hl 1 rfl) ?_
      refine zc_S (As := [.int 9]) (rest := [.int 0]) ⟨hx, hb, hml, hown, hts⟩ (c_R_numbersOf_9 l D cI cJ cZ cP cS po  ) (va_cwS 1 hts gX3_readItem_X3_numbersOf rfl rfl rfl dh_X3_numbersOf ⟨Nat.le_of_ble_eq_true rfl, Nat.le_of_ble_eq_true rfl⟩) hK hN (hZ.kept hS) rfl hl.1 rfl (Nat.le_of_ble_eq_true rfl) dX3_readItem_22 ⟨Nat.le_of_ble_eq_true rfl, Nat.le_of_ble_eq_true rfl⟩ (fun r_297 hr_297 => ?_)
      obtain rfl := hr_297
      refine lv_icmp_ge (tgt := 82) hx hb dX3_readItem_25 (by decide) (fun c_298 => ?_) (fun c_298 => ?_)
      · exact absurd c_298 (by decide)
      · refine lv_aload_n hx hb dX3_readItem_28 rfl (lv_at hl 2 rfl) ?_
        refine lv_bipush (v := 32) hx hb dX3_readItem_29 (by decide) ?_
        have kc32 : (32 : Int32).toInt = 32 := by decide
        skip
        refine zw_Vv (As := [.int 32]) (rest := []) (wr := [(ri, .inl (cI, 132, .inl (upd fi slot.toNatClampNeg 9)))]) ⟨hx, hb, hml, hown, hts⟩ (c_F_R_expect l D cI cJ cZ cP cS po rd ri rl (rz) (rc) (q_3) (q_4) (rt) (ru) fl (32) hy0 hy1 hy2 hy3 hbq_3.1 hbq_3.2 (by omega) hbq_4.1 hbq_4.2 hy9 hy10 hy11 hy12 H.size) (cwV 1 hts gX3_readItem_X3_expect rfl rfl rfl ⟨rfl, dh_X3_expect⟩ ⟨Nat.le_of_ble_eq_true rfl, Nat.le_of_ble_eq_true rfl⟩) hK hN (hZ.kept hS) hP hD hS hA [1, 2] [0] rfl rfl (by decide) (by decide) (by decide) (va_recv (q := (RX3, TX3, 8)) hK hP (ci := 3) (q0 := 1) rfl rfl) rfl hl.1 rfl (Nat.le_of_ble_eq_true rfl) dX3_readItem_31 ⟨Nat.le_of_ble_eq_true rfl, Nat.le_of_ble_eq_true rfl⟩ (fun u_300 H locs hr_299 hP hD hS => ?_)
        obtain ⟨q_301, q_302⟩ := u_300
        try dsimp only at hr_299
        obtain ⟨hbq_301, hbq_302, hsr_299_0, hsr_299_1, hr_299⟩ := hr_299
        have h9R := zRe (ws' := [(ri, .inl (cI, 132, .inl (upd fi slot.toNatClampNeg 9))), (rd, .inr (3, [.ref ri, .ref rl, .int rz, .int rc, .int q_301, .int q_302, .int rt, .int ru])), (rl, .inl (cI, 160, .inl fl))]) hP hD rfl
        clear hP hD
        obtain ⟨hP, hD⟩ := h9R
        refine lv_aload_n hx hb dX3_readItem_34 rfl (lv_at hl 2 rfl) ?_
        refine va_get (D := D) (ci := 3) (v := .int q_302) (C := RX3) (T := TX3) (N := 8) hx hb hts hi_X3_readItem_3 hown hK hP 1 rfl rfl 5 (by decide) (hts (.fieldLink RX3 28 "TheLiningsInIt$Reader" "fault" "I") (List.mem_of_getElem? (i := 2) rfl)) (fun _ h9 => h9) rfl dX3_readItem_35 ?_
        refine lv_iconst (v := (-1)) hx hb dX3_readItem_38 (by decide) ?_
        refine lv_icmp_ne (tgt := 67) hx hb dX3_readItem_39 (by decide) (fun c_303 => ?_) (fun c_303 => ?_)
        · have fc_303 : q_302.toInt ≠ (-1) := zf_ne c_303 rfl (by decide)
          have hn0 : zN1 fl rz.toInt (q_3 : Int32).toInt (zLo 9 0) (zHi 9 0 rt.toInt) = ((q_3 : Int32).toInt, (q_3 : Int32).toInt, 0) := zN1_no (by omega)
          refine lv_aload_n hx hb dX3_readItem_67 rfl (lv_at hl 2 rfl) ?_
          refine va_get (D := D) (ci := 3) (v := .int q_302) (C := RX3) (T := TX3) (N := 8) hx hb hts hi_X3_readItem_3 hown hK hP 1 rfl rfl 5 (by decide) (hts (.fieldLink RX3 28 "TheLiningsInIt$Reader" "fault" "I") (List.mem_of_getElem? (i := 2) rfl)) (fun _ h9 => h9) rfl dX3_readItem_68 ?_
          refine lv_iconst (v := (-1)) hx hb dX3_readItem_71 (by decide) ?_
          refine lv_icmp_eq (tgt := 76) hx hb dX3_readItem_72 (by decide) (fun c_304 => ?_) (fun c_304 => ?_)
          · exfalso; have fc_304 : q_302.toInt = (-1) := zf_eq c_304 rfl (by decide); omega
          · have fc_304 : q_302.toInt ≠ (-1) := zf_ne c_304 rfl (by decide)
            have e0 : slot.toNatClampNeg = slot.toInt.toNat + 0 := (by show (slot : Int32).toInt.toNat = _; omega)
            have hI := zIn_a hn0 (by first | (right; decide) | (left; omega))
            exact W.vret hx hb hr (fun t ht hW => ⟨⟨(q_301, q_302, rt, ru, (upd fi slot.toNatClampNeg 9)), rfl, ⟨(show 0 ≤ q_301.toInt ∧ q_301.toInt ≤ 160 from hbq_301), (show (-1) ≤ q_302.toInt ∧ q_302.toInt ≤ 160 from hbq_302), (show 0 ≤ rt.toInt ∧ rt.toInt ≤ 40 from ⟨hy9, hy10⟩), (show 0 ≤ ru.toInt ∧ ru.toInt ≤ 8 from ⟨hy11, hy12⟩), (show q_301.toInt ≤ rz.toInt from by omega), (show (q_302.toInt = -1 → zIt (upd fi slot.toNatClampNeg 9) slot.toInt.toNat) from by (intro h; exfalso; omega)), (show (∀ j : Nat, j < slot.toInt.toNat → (upd fi slot.toNatClampNeg 9) j = fi j) from by (intro j hj; simp only [upd]; rw [if_neg (by omega)])), (show (q_302.toInt = (zItem fl rz.toInt rp.toInt rt.toInt ru.toInt).1 ∧ (q_302.toInt = -1 → q_301.toInt = (zItem fl rz.toInt rp.toInt rt.toInt ru.toInt).2.1 ∧ rt.toInt = (zItem fl rz.toInt rp.toInt rt.toInt ru.toInt).2.2.1 ∧ ru.toInt = (zItem fl rz.toInt rp.toInt rt.toInt ru.toInt).2.2.2)) from by (have z9 := hsr_1_1; rw [kc9] at z9; have hq : zFst fl rz.toInt rp.toInt zWds 10 = 9 ∧ ¬ ((9 : Int) = 3 ∧ ru.toInt = 8) := (by omega); have hl9 : (q_3 : Int32).toInt = rp.toInt + ((zWds ((9 : Int)).toNat).length : Nat) := (by omega); rw [zItem_w hq.1 (by decide) hq.2 hl9 hI]; dsimp only; exact ⟨by (first | rfl | omega), fun h => ⟨by (first | rfl | omega), by (show _ = (if (9 : Int) = 0 then _ else _); rw [if_neg (by decide)]), by (show _ = (if (9 : Int) = 3 then _ else _); rw [if_neg (by decide)])⟩⟩)), (show (q_302.toInt = -1 → (((upd fi slot.toNatClampNeg 9) slot.toInt.toNat).toInt = 0 → rt.toInt = ((upd fi slot.toNatClampNeg 9) (slot.toInt.toNat + 1)).toInt) ∧ (((upd fi slot.toNatClampNeg 9) slot.toInt.toNat).toInt ≠ 0 → rt.toInt = rt.toInt) ∧ (((upd fi slot.toNatClampNeg 9) slot.toInt.toNat).toInt = 3 → ru.toInt = ru.toInt + 1) ∧ (((upd fi slot.toNatClampNeg 9) slot.toInt.toNat).toInt ≠ 3 → ru.toInt = ru.toInt)) from by (intro h; exfalso; omega)), (show (q_302.toInt = -1 → zSm (zDS (upd fi slot.toNatClampNeg 9) slot.toInt.toNat) (zIm fl rz.toInt rp.toInt rt.toInt)) from by (intro h; exfalso; omega)), trivial⟩, zRet ht hP hD [1, 2, 0] (by decide) rfl⟩, hS.F ht⟩) hS.2.2 dX3_readItem_75
        · have fc_303 : q_302.toInt = (-1) := zf_eq c_303 rfl (by decide)
          refine lv_aload_n hx hb dX3_readItem_42 rfl (lv_at hl 2 rfl) ?_
          refine va_get (D := D) (ci := 3) (v := .ref ri) (C := RX3) (T := TX3) (N := 8) hx hb hts hi_X3_readItem_3 hown hK hP 1 rfl rfl 0 (by decide) (hts (.fieldLink RX3 11 "TheLiningsInIt$Reader" "items" "[I") (List.mem_of_getElem? (i := 1) rfl)) (fun _ h9 => h9) rfl dX3_readItem_43 ?_
          refine lv_iload_n hx hb dX3_readItem_46 rfl (lv_at hl 3 rfl) ?_
          refine lv_iconst (v := 1) hx hb dX3_readItem_47 (by decide) ?_
          refine lv_iadd hx hb dX3_readItem_48 ?_
          refine lv_topi (fun x_305 ex_305 => ?_)
          have qx_305 : x_305.toInt = slot.toInt + 1 := by rw [ex_305]; exact zf_add rfl (by decide) (by omega) (by omega)
          refine lv_iload_n hx hb dX3_readItem_49 rfl (lv_at hl 0 rfl) ?_
          refine lv_iadd hx hb dX3_readItem_50 ?_
          refine lv_topi (fun y_306 ey_306 => ?_)
          obtain rfl : x_305 = y_306 := (ey_306.trans (Int32.add_zero x_305)).symm
          refine lv_aload_n hx hb dX3_readItem_51 rfl (lv_at hl 2 rfl) ?_
          refine lv_iload_n hx hb dX3_readItem_52 rfl (lv_at hl 1 rfl) ?_
          refine lv_iload_n hx hb dX3_readItem_53 rfl (lv_at hl 0 rfl) ?_
          refine zc_S (As := [.int 9, .int 0]) (rest := [.ref rd, .int x_305, .ref ri]) ⟨hx, hb, hml, hown, hts⟩ (c_R_leastOf_9_0 l D cI cJ cZ cP cS po  ) (va_cwS 2 hts gX3_readItem_X3_leastOf rfl rfl rfl dh_X3_leastOf ⟨Nat.le_of_ble_eq_true rfl, Nat.le_of_ble_eq_true rfl⟩) hK hN (hZ.kept hS) rfl hl.1 rfl (Nat.le_of_ble_eq_true rfl) dX3_readItem_54 ⟨Nat.le_of_ble_eq_true rfl, Nat.le_of_ble_eq_true rfl⟩ (fun r_307 hr_307 => ?_)
          obtain rfl := hr_307
          refine lv_aload_n hx hb dX3_readItem_57 rfl (lv_at hl 2 rfl) ?_
          refine lv_iload_n hx hb dX3_readItem_58 rfl (lv_at hl 1 rfl) ?_
          refine lv_iload_n hx hb dX3_readItem_59 rfl (lv_at hl 0 rfl) ?_
          refine zc_V (As := [.int 9, .int 0]) (rest := [.int 0, .ref rd, .int x_305, .ref ri]) ⟨hx, hb, hml, hown, hts⟩ (c_R_mostOf_9_0 l D cI cJ cZ cP cS po rd ri rl (rz) (rc) (q_301) (q_302) (rt) (ru) hy0 hy1 hy2 hy3 hbq_301.1 hbq_301.2 (by omega) hbq_302.1 hbq_302.2 hy9 hy10 hy11 hy12) (cwV 2 hts gX3_readItem_X3_mostOf rfl rfl rfl ⟨rfl, dh_X3_mostOf⟩ ⟨Nat.le_of_ble_eq_true rfl, Nat.le_of_ble_eq_true rfl⟩) hK hN (hZ.kept hS) hP (hP.sub [1] rfl) (va_recv (q := (RX3, TX3, 8)) hK hP (ci := 3) (q0 := 1) rfl rfl) rfl hl.1 rfl (Nat.le_of_ble_eq_true rfl) dX3_readItem_60 ⟨Nat.le_of_ble_eq_true rfl, Nat.le_of_ble_eq_true rfl⟩ (fun r_308 hr_308 => ?_)
          obtain ⟨g_309, g_310, hsr_308_0⟩ := hr_308
          have kc0 : (0 : Int32).toInt = 0 := by decide
          skip
          refine zw_V (As := [.int 0, .int r_308]) (rest := [.int x_305, .ref ri]) (wr := [(ri, .inl (cI, 132, .inl (upd fi slot.toNatClampNeg 9)))]) ⟨hx, hb, hml, hown, hts⟩ (c_F_R_readNumber l D cI cJ cZ cP cS po rd ri rl (rz) (rc) (q_301) (q_302) (rt) (ru) fl (0) (r_308) hy0 hy1 hy2 hy3 hbq_301.1 hbq_301.2 (by omega) hbq_302.1 hbq_302.2 hy9 hy10 hy11 hy12 H.size) (cwV 2 hts gX3_readItem_X3_readNumber rfl rfl rfl ⟨rfl, dh_X3_readNumber⟩ ⟨Nat.le_of_ble_eq_true rfl, Nat.le_of_ble_eq_true rfl⟩) hK hN (hZ.kept hS) hP hD hS hA [1, 2] [0] rfl rfl (by decide) (by decide) (by decide) (va_recv (q := (RX3, TX3, 8)) hK hP (ci := 3) (q0 := 1) rfl rfl) rfl hl.1 rfl (Nat.le_of_ble_eq_true rfl) dX3_readItem_63 ⟨Nat.le_of_ble_eq_true rfl, Nat.le_of_ble_eq_true rfl⟩ (fun r_311 u_312 H locs hr_311 hP hD hS => ?_)
          obtain ⟨q_313, q_314⟩ := u_312
          try dsimp only at hr_311
          obtain ⟨hbq_313, hbq_314, hsr_311_0, hsr_311_1, hsr_311_2, hsr_311_3, hr_311⟩ := hr_311
          have h9R := zRe (ws' := [(ri, .inl (cI, 132, .inl (upd fi slot.toNatClampNeg 9))), (rd, .inr (3, [.ref ri, .ref rl, .int rz, .int rc, .int q_313, .int q_314, .int rt, .int ru])), (rl, .inl (cI, 160, .inl fl))]) hP hD rfl
          clear hP hD
          obtain ⟨hP, hD⟩ := h9R
          obtain ⟨g_315, g_316⟩ := hr_311
          refine va_iast hx hb hK hP hD hS 0 0 rfl rfl (zf_in (by omega) (by omega)) dX3_readItem_66 (fun H locs hP hD hS => ?_)
          have h9R := zRe (ws' := [(ri, .inl (cI, 132, .inl (upd (upd fi slot.toNatClampNeg 9) x_305.toNatClampNeg r_311))), (rd, .inr (3, [.ref ri, .ref rl, .int rz, .int rc, .int q_313, .int q_314, .int rt, .int ru])), (rl, .inl (cI, 160, .inl fl))]) hP hD rfl
          clear hP hD
          obtain ⟨hP, hD⟩ := h9R
          have hn0 : zN1 fl rz.toInt (q_3 : Int32).toInt (zLo 9 0) (zHi 9 0 rt.toInt) = ((q_314 : Int32).toInt, (q_313 : Int32).toInt, r_311.toInt) := zN1_yes (p1 := (q_301 : Int32).toInt) (lo2 := ((0 : Int32)).toInt) (hi2 := ((r_308 : Int32)).toInt) (by omega) (by omega) hsr_311_1 hsr_311_2 (by first | decide | (show (0 : Int) = _; omega)) (by first | decide | (show rt.toInt - 1 = _; omega) | (show rt.toInt = _; omega)) (by omega)
          refine lv_aload_n hx hb dX3_readItem_67 rfl (lv_at hl 2 rfl) ?_
          refine va_get (D := D) (ci := 3) (v := .int q_314) (C := RX3) (T := TX3) (N := 8) hx hb hts hi_X3_readItem_3 hown hK hP 1 rfl rfl 5 (by decide) (hts (.fieldLink RX3 28 "TheLiningsInIt$Reader" "fault" "I") (List.mem_of_getElem? (i := 2) rfl)) (fun _ h9 => h9) rfl dX3_readItem_68 ?_
          refine lv_iconst (v := (-1)) hx hb dX3_readItem_71 (by decide) ?_
          refine lv_icmp_eq (tgt := 76) hx hb dX3_readItem_72 (by decide) (fun c_317 => ?_) (fun c_317 => ?_)
          · have fc_317 : q_314.toInt = (-1) := zf_eq c_317 rfl (by decide)
            refine lv_iinc (v := 1) (lv' := [(3, .int 1), (2, .int 9), (0, .ref rd), (1, .int slot)]) hx hb dX3_readItem_76 hl (k := 0) rfl (by decide) (by decide) rfl (fun ls hl => ?_)
            refine lv_goto (tgt := 20) hx hb dX3_readItem_79 (by decide) ?_
            refine lv_iload_n hx hb dX3_readItem_20 rfl (lv_at hl 0 rfl) ?_
            refine lv_iload_n hx hb dX3_readItem_21 rfl (lv_at hl 1 rfl) ?_
            refine zc_S (As := [.int 9]) (rest := [.int 1]) ⟨hx, hb, hml, hown, hts⟩ (c_R_numbersOf_9 l D cI cJ cZ cP cS po  ) (va_cwS 1 hts gX3_readItem_X3_numbersOf rfl rfl rfl dh_X3_numbersOf ⟨Nat.le_of_ble_eq_true rfl, Nat.le_of_ble_eq_true rfl⟩) hK hN (hZ.kept hS) rfl hl.1 rfl (Nat.le_of_ble_eq_true rfl) dX3_readItem_22 ⟨Nat.le_of_ble_eq_true rfl, Nat.le_of_ble_eq_true rfl⟩ (fun r_318 hr_318 => ?_)
            obtain rfl := hr_318
            refine lv_icmp_ge (tgt := 82) hx hb dX3_readItem_25 (by decide) (fun c_319 => ?_) (fun c_319 => ?_)
            · refine lv_iload_n hx hb dX3_readItem_82 rfl (lv_at hl 1 rfl) ?_
              refine lv_if_ne (tgt := 101) hx hb dX3_readItem_83 (by decide) (fun c_320 => ?_) (fun c_320 => ?_)
              · refine lv_iload_n hx hb dX3_readItem_101 rfl (lv_at hl 1 rfl) ?_
                refine lv_iconst (v := 3) hx hb dX3_readItem_102 (by decide) ?_
                refine lv_icmp_ne (tgt := 116) hx hb dX3_readItem_103 (by decide) (fun c_321 => ?_) (fun c_321 => ?_)
                · have e0 : slot.toNatClampNeg = slot.toInt.toNat + 0 := (by show (slot : Int32).toInt.toNat = _; omega)
                  have e1 : x_305.toNatClampNeg = slot.toInt.toNat + 1 := (by show (x_305 : Int32).toInt.toNat = _; omega)
                  have hI := zIn_a hn0 (by first | (right; decide) | (left; omega))
                  exact W.vret hx hb hr (fun t ht hW => ⟨⟨(q_313, q_314, rt, ru, (upd (upd fi slot.toNatClampNeg 9) x_305.toNatClampNeg r_311)), rfl, ⟨(show 0 ≤ q_313.toInt ∧ q_313.toInt ≤ 160 from hbq_313), (show (-1) ≤ q_314.toInt ∧ q_314.toInt ≤ 160 from hbq_314), (show 0 ≤ rt.toInt ∧ rt.toInt ≤ 40 from ⟨hy9, hy10⟩), (show 0 ≤ ru.toInt ∧ ru.toInt ≤ 8 from ⟨hy11, hy12⟩), (show q_313.toInt ≤ rz.toInt from by omega), (show (q_314.toInt = -1 → zIt (upd (upd fi slot.toNatClampNeg 9) x_305.toNatClampNeg r_311) slot.toInt.toNat) from by (intro h; have k3 : (9 : Int32).toInt = 9 := (by decide); exact zIt_mk (by simp only [upd]; rw [if_neg (by omega), if_pos (by omega)]) (by simp only [upd]; rw [if_pos (by omega)]) (rfl) (rfl) (by unfold zItv; refine ⟨?_, ?_, ?_, ?_, ?_, ?_, ?_, ?_, ?_, ?_, ?_⟩ <;> (intros; omega)))), (show (∀ j : Nat, j < slot.toInt.toNat → (upd (upd fi slot.toNatClampNeg 9) x_305.toNatClampNeg r_311) j = fi j) from by (intro j hj; simp only [upd]; rw [if_neg (by omega), if_neg (by omega)])), (show (q_314.toInt = (zItem fl rz.toInt rp.toInt rt.toInt ru.toInt).1 ∧ (q_314.toInt = -1 → q_313.toInt = (zItem fl rz.toInt rp.toInt rt.toInt ru.toInt).2.1 ∧ rt.toInt = (zItem fl rz.toInt rp.toInt rt.toInt ru.toInt).2.2.1 ∧ ru.toInt = (zItem fl rz.toInt rp.toInt rt.toInt ru.toInt).2.2.2)) from by (have z9 := hsr_1_1; rw [kc9] at z9; have hq : zFst fl rz.toInt rp.toInt zWds 10 = 9 ∧ ¬ ((9 : Int) = 3 ∧ ru.toInt = 8) := (by omega); have hl9 : (q_3 : Int32).toInt = rp.toInt + ((zWds ((9 : Int)).toNat).length : Nat) := (by omega); rw [zItem_w hq.1 (by decide) hq.2 hl9 hI]; dsimp only; exact ⟨by (first | rfl | omega), fun h => ⟨by (first | rfl | omega), by (show _ = (if (9 : Int) = 0 then _ else _); rw [if_neg (by decide)]), by (show _ = (if (9 : Int) = 3 then _ else _); rw [if_neg (by decide)])⟩⟩)), (show (q_314.toInt = -1 → (((upd (upd fi slot.toNatClampNeg 9) x_305.toNatClampNeg r_311) slot.toInt.toNat).toInt = 0 → rt.toInt = ((upd (upd fi slot.toNatClampNeg 9) x_305.toNatClampNeg r_311) (slot.toInt.toNat + 1)).toInt) ∧ (((upd (upd fi slot.toNatClampNeg 9) x_305.toNatClampNeg r_311) slot.toInt.toNat).toInt ≠ 0 → rt.toInt = rt.toInt) ∧ (((upd (upd fi slot.toNatClampNeg 9) x_305.toNatClampNeg r_311) slot.toInt.toNat).toInt = 3 → ru.toInt = ru.toInt + 1) ∧ (((upd (upd fi slot.toNatClampNeg 9) x_305.toNatClampNeg r_311) slot.toInt.toNat).toInt ≠ 3 → ru.toInt = ru.toInt)) from by (intro h; have g0 : (upd (upd fi slot.toNatClampNeg 9) x_305.toNatClampNeg r_311) slot.toInt.toNat = (9 : Int32) := (by simp only [upd]; rw [if_neg (by omega), if_pos (by omega)]); have g1 : (upd (upd fi slot.toNatClampNeg 9) x_305.toNatClampNeg r_311) (slot.toInt.toNat + 1) = (r_311 : Int32) := (by simp only [upd]; rw [if_pos (by omega)]); rw [g0, g1]; refine ⟨?_, ?_, ?_, ?_⟩ <;> (intro h9; first | rfl | omega | (exfalso; omega)))), (show (q_314.toInt = -1 → zSm (zDS (upd (upd fi slot.toNatClampNeg 9) x_305.toNatClampNeg r_311) slot.toInt.toNat) (zIm fl rz.toInt rp.toInt rt.toInt)) from by (intro h; have g0 : (upd (upd fi slot.toNatClampNeg 9) x_305.toNatClampNeg r_311) (slot.toInt.toNat + 0) = (9 : Int32) := (by simp only [upd]; rw [if_neg (by omega), if_pos (by omega)]); have g1 : (upd (upd fi slot.toNatClampNeg 9) x_305.toNatClampNeg r_311) (slot.toInt.toNat + 1) = (r_311 : Int32) := (by simp only [upd]; rw [if_pos (by omega)]); have z9 := hsr_1_1; rw [kc9] at z9; have hW : zIW fl rz.toInt rp.toInt = 9 := (by unfold zIW; omega); have hP9 : zIP fl rz.toInt rp.toInt = (q_3 : Int32).toInt := (by unfold zIP; rw [hW]; have hl9 : (q_3 : Int32).toInt = rp.toInt + ((zWds ((9 : Int)).toNat).length : Nat) := (by omega); exact hl9.symm); exact ⟨(show ((upd (upd fi slot.toNatClampNeg 9) x_305.toNatClampNeg r_311) (slot.toInt.toNat + 0)).toInt = zIW fl rz.toInt rp.toInt from by (rw [g0, hW]; omega)), (show ((upd (upd fi slot.toNatClampNeg 9) x_305.toNatClampNeg r_311) (slot.toInt.toNat + 1)).toInt = (zIn fl rz.toInt (zIP fl rz.toInt rp.toInt) rt.toInt (zIW fl rz.toInt rp.toInt)).2.2 from by (rw [g1, hP9, hW, hI])), fun hz => absurd (show ((upd (upd fi slot.toNatClampNeg 9) x_305.toNatClampNeg r_311) (slot.toInt.toNat + 0)).toInt = 2 ∨ ((upd (upd fi slot.toNatClampNeg 9) x_305.toNatClampNeg r_311) (slot.toInt.toNat + 0)).toInt = 3 ∨ ((upd (upd fi slot.toNatClampNeg 9) x_305.toNatClampNeg r_311) (slot.toInt.toNat + 0)).toInt = 8 from hz) (by rw [g0]; omega), fun hz => absurd (show ((upd (upd fi slot.toNatClampNeg 9) x_305.toNatClampNeg r_311) (slot.toInt.toNat + 0)).toInt = 3 from hz) (by rw [g0]; omega)⟩)), trivial⟩, zRet ht hP hD [1, 2, 0] (by decide) rfl⟩, hS.F ht⟩) hS.2.2 dX3_readItem_116
                · exact absurd c_321 (by decide)
              · exact absurd c_320 (by decide)
            · exact absurd c_319 (by decide)
          · have fc_317 : q_314.toInt ≠ (-1) := zf_ne c_317 rfl (by decide)
            have e0 : slot.toNatClampNeg = slot.toInt.toNat + 0 := (by show (slot : Int32).toInt.toNat = _; omega)
            have e1 : x_305.toNatClampNeg = slot.toInt.toNat + 1 := (by show (x_305 : Int32).toInt.toNat = _; omega)
            have hI := zIn_a hn0 (by first | (right; decide) | (left; omega))
            exact W.vret hx hb hr (fun t ht hW => ⟨⟨(q_313, q_314, rt, ru, (upd (upd fi slot.toNatClampNeg 9) x_305.toNatClampNeg r_311)), rfl, ⟨(show 0 ≤ q_313.toInt ∧ q_313.toInt ≤ 160 from hbq_313), (show (-1) ≤ q_314.toInt ∧ q_314.toInt ≤ 160 from hbq_314), (show 0 ≤ rt.toInt ∧ rt.toInt ≤ 40 from ⟨hy9, hy10⟩), (show 0 ≤ ru.toInt ∧ ru.toInt ≤ 8 from ⟨hy11, hy12⟩), (show q_313.toInt ≤ rz.toInt from by omega), (show (q_314.toInt = -1 → zIt (upd (upd fi slot.toNatClampNeg 9) x_305.toNatClampNeg r_311) slot.toInt.toNat) from by (intro h; exfalso; omega)), (show (∀ j : Nat, j < slot.toInt.toNat → (upd (upd fi slot.toNatClampNeg 9) x_305.toNatClampNeg r_311) j = fi j) from by (intro j hj; simp only [upd]; rw [if_neg (by omega), if_neg (by omega)])), (show (q_314.toInt = (zItem fl rz.toInt rp.toInt rt.toInt ru.toInt).1 ∧ (q_314.toInt = -1 → q_313.toInt = (zItem fl rz.toInt rp.toInt rt.toInt ru.toInt).2.1 ∧ rt.toInt = (zItem fl rz.toInt rp.toInt rt.toInt ru.toInt).2.2.1 ∧ ru.toInt = (zItem fl rz.toInt rp.toInt rt.toInt ru.toInt).2.2.2)) from by (have z9 := hsr_1_1; rw [kc9] at z9; have hq : zFst fl rz.toInt rp.toInt zWds 10 = 9 ∧ ¬ ((9 : Int) = 3 ∧ ru.toInt = 8) := (by omega); have hl9 : (q_3 : Int32).toInt = rp.toInt + ((zWds ((9 : Int)).toNat).length : Nat) := (by omega); rw [zItem_w hq.1 (by decide) hq.2 hl9 hI]; dsimp only; exact ⟨by (first | rfl | omega), fun h => ⟨by (first | rfl | omega), by (show _ = (if (9 : Int) = 0 then _ else _); rw [if_neg (by decide)]), by (show _ = (if (9 : Int) = 3 then _ else _); rw [if_neg (by decide)])⟩⟩)), (show (q_314.toInt = -1 → (((upd (upd fi slot.toNatClampNeg 9) x_305.toNatClampNeg r_311) slot.toInt.toNat).toInt = 0 → rt.toInt = ((upd (upd fi slot.toNatClampNeg 9) x_305.toNatClampNeg r_311) (slot.toInt.toNat + 1)).toInt) ∧ (((upd (upd fi slot.toNatClampNeg 9) x_305.toNatClampNeg r_311) slot.toInt.toNat).toInt ≠ 0 → rt.toInt = rt.toInt) ∧ (((upd (upd fi slot.toNatClampNeg 9) x_305.toNatClampNeg r_311) slot.toInt.toNat).toInt = 3 → ru.toInt = ru.toInt + 1) ∧ (((upd (upd fi slot.toNatClampNeg 9) x_305.toNatClampNeg r_311) slot.toInt.toNat).toInt ≠ 3 → ru.toInt = ru.toInt)) from by (intro h; exfalso; omega)), (show (q_314.toInt = -1 → zSm (zDS (upd (upd fi slot.toNatClampNeg 9) x_305.toNatClampNeg r_311) slot.toInt.toNat) (zIm fl rz.toInt rp.toInt rt.toInt)) from by (intro h; exfalso; omega)), trivial⟩, zRet ht hP hD [1, 2, 0] (by decide) rfl⟩, hS.F ht⟩) hS.2.2 dX3_readItem_75
  · have fc_7 : r_1.toInt = (-1) := zf_eq c_7 rfl (by decide)
    exact W.vret hx hb hr (fun t ht hW => ⟨⟨(q_3, q_4, rt, ru, fi), rfl, ⟨(show 0 ≤ q_3.toInt ∧ q_3.toInt ≤ 160 from hbq_3), (show (-1) ≤ q_4.toInt ∧ q_4.toInt ≤ 160 from hbq_4), (show 0 ≤ rt.toInt ∧ rt.toInt ≤ 40 from ⟨hy9, hy10⟩), (show 0 ≤ ru.toInt ∧ ru.toInt ≤ 8 from ⟨hy11, hy12⟩), (show q_3.toInt ≤ rz.toInt from by omega), (show (q_4.toInt = -1 → zIt fi slot.toInt.toNat) from by intro h; exfalso; omega), (show (∀ j : Nat, j < slot.toInt.toNat → fi j = fi j) from by exact fun _ _ => rfl), (show (q_4.toInt = (zItem fl rz.toInt rp.toInt rt.toInt ru.toInt).1 ∧ (q_4.toInt = -1 → q_3.toInt = (zItem fl rz.toInt rp.toInt rt.toInt ru.toInt).2.1 ∧ rt.toInt = (zItem fl rz.toInt rp.toInt rt.toInt ru.toInt).2.2.1 ∧ ru.toInt = (zItem fl rz.toInt rp.toInt rt.toInt ru.toInt).2.2.2)) from by (rcases hsr_1_1 with ⟨h1, h2, h3⟩ | ⟨h1, h2, h3, h4⟩ | ⟨h1, h2, h3⟩ <;> first | (rw [zItem_none h1]; dsimp only; exact ⟨by omega, fun h => by (exfalso; omega)⟩) | (rw [zItem_room h1 h2]; dsimp only; exact ⟨by omega, fun h => by (exfalso; omega)⟩) | (exfalso; omega))), (show (q_4.toInt = -1 → ((fi slot.toInt.toNat).toInt = 0 → rt.toInt = (fi (slot.toInt.toNat + 1)).toInt) ∧ ((fi slot.toInt.toNat).toInt ≠ 0 → rt.toInt = rt.toInt) ∧ ((fi slot.toInt.toNat).toInt = 3 → ru.toInt = ru.toInt + 1) ∧ ((fi slot.toInt.toNat).toInt ≠ 3 → ru.toInt = ru.toInt)) from by (intro h; exfalso; omega)), (show (q_4.toInt = -1 → zSm (zDS fi slot.toInt.toNat) (zIm fl rz.toInt rp.toInt rt.toInt)) from by (intro h; exfalso; omega)), trivial⟩, zRet ht hP hD [1, 2, 0] (by decide) rfl⟩, hS.F ht⟩) hS.2.2 dX3_readItem_10
end
section
set_option maxHeartbeats 4000000 in
set_option maxRecDepth 100000 in
theorem c_F_Sh_tells (l : Launch) (D : va_G) (cI cJ cZ cP cS : ClassId) (po : zPool) (h0 e0 : Nat) (he si : Int32) (fe : Nat → Int64) (i : Int32) (hy0 : (-1) ≤ he.toInt) (hy1 : he.toInt ≤ 103) (hy2 : 0 ≤ si.toInt) (hy3 : si.toInt ≤ 160) : Met l yX4_tells wsX4_tells ({ frames := 1, cells := 0, slots := 0, locals := 22 }) (va_Pc [.ref h0, .int i] (zR D (zKT cI cJ cZ cP cS) po [(h0, .inr (4, [.ref e0, .int he, .int si])), (e0, .inl (cJ, 160, .inr (.inl fe)))])) (vp_Si (fun r => ((0 ≤ i.toInt → i.toInt < si.toInt → r = (fe i.toNatClampNeg).toInt32)))) 0 0 (fun _ => False) := by
  refine Met.ofW (cc := cX4_tells) (maxL := 2) (ret := (some .int)) (by decide) rfl ?_
  intro p e s m args below meth c s₁ B hml hv
  obtain ⟨rfl, hP, hK, hN, hZ⟩ := hv
  have hx := B.exec
  have hb := B.bytes
  have hr := B.returns
  have hts := atoms_spec (ws := wsX4_tells) B.pre
  have hown : s.vm.findClass RX4 = some m.cls := findClass_of_methodNamed B.named
  have hlocks := B.notSynchronized
  have hl := lv_entry ([.ref h0, .int i]) (n := 2) (Nat.le_of_ble_eq_true rfl)
  rw [lg_entry_eq]
  generalize (lg_sl ([.ref h0, .int i]) ++ List.replicate (2 - (lg_sl ([.ref h0, .int i])).length) Slot.unset).toArray = ls at hl ⊢
  replace hl : lv_has ls 2 [(0, .ref h0), (1, .int i)] := hl
  refine lv_aload_n hx hb dX4_tells_0 rfl (lv_at hl 0 rfl) ?_
  refine lv_iload_n hx hb dX4_tells_1 rfl (lv_at hl 1 rfl) ?_
  refine lv_iconst (v := 1) hx hb dX4_tells_2 (by decide) ?_
  have kc1 : (1 : Int32).toInt = 1 := by decide
  refine zc_V (As := [.int i, .int 1]) (rest := []) ⟨hx, hb, hml, hown, hts⟩ (c_Sh_hasSpan l D cI cJ cZ cP cS po h0 e0 (he) (si) (i) (1) hy0 hy1 hy2 hy3) (cwV 2 hts gX4_tells_X4_hasSpan rfl rfl rfl ⟨rfl, dh_X4_hasSpan⟩ ⟨Nat.le_of_ble_eq_true rfl, Nat.le_of_ble_eq_true rfl⟩) hK hN hZ hP (hP.sub [0] rfl) (va_recv (q := (RX4, TX4, 3)) hK hP (ci := 4) (q0 := 0) rfl rfl) rfl hl.1 rfl (Nat.le_of_ble_eq_true rfl) dX4_tells_3 ⟨Nat.le_of_ble_eq_true rfl, Nat.le_of_ble_eq_true rfl⟩ (fun r_1 hr_1 => ?_)
  rcases hr_1 with ⟨rfl, g_2⟩ | ⟨rfl, g_3, g_4⟩ | ⟨rfl, g_5, g_6, g_7⟩ | ⟨rfl, g_8, g_9, g_10, g_11⟩ | ⟨rfl, g_12, g_13, g_14, g_15⟩
  · refine lv_if_eq (tgt := 19) hx hb dX4_tells_6 (by decide) (fun c_16 => ?_) (fun c_16 => ?_)
    · refine lv_iconst (v := 0) hx hb dX4_tells_19 (by decide) ?_
      exact W.iret (v := 0) hx hb hr (fun t ht hW => ⟨0, rfl, (show (0 ≤ i.toInt → i.toInt < si.toInt → (0 : Int32) = (fe i.toNatClampNeg).toInt32) from by (intro h1 h2; exfalso; omega)), ht⟩) (fun q hq => by cases hq) dX4_tells_20
    · exact absurd c_16 (by decide)
  · exfalso; omega
  · refine lv_if_eq (tgt := 19) hx hb dX4_tells_6 (by decide) (fun c_17 => ?_) (fun c_17 => ?_)
    · refine lv_iconst (v := 0) hx hb dX4_tells_19 (by decide) ?_
      exact W.iret (v := 0) hx hb hr (fun t ht hW => ⟨0, rfl, (show (0 ≤ i.toInt → i.toInt < si.toInt → (0 : Int32) = (fe i.toNatClampNeg).toInt32) from by (intro h1 h2; exfalso; omega)), ht⟩) (fun q hq => by cases hq) dX4_tells_20
    · exact absurd c_17 (by decide)
  · refine lv_if_eq (tgt := 19) hx hb dX4_tells_6 (by decide) (fun c_18 => ?_) (fun c_18 => ?_)
    · refine lv_iconst (v := 0) hx hb dX4_tells_19 (by decide) ?_
      exact W.iret (v := 0) hx hb hr (fun t ht hW => ⟨0, rfl, (show (0 ≤ i.toInt → i.toInt < si.toInt → (0 : Int32) = (fe i.toNatClampNeg).toInt32) from by (intro h1 h2; exfalso; omega)), ht⟩) (fun q hq => by cases hq) dX4_tells_20
    · exact absurd c_18 (by decide)
  · refine lv_if_eq (tgt := 19) hx hb dX4_tells_6 (by decide) (fun c_19 => ?_) (fun c_19 => ?_)
    · exact absurd c_19 (by decide)
    · refine lv_aload_n hx hb dX4_tells_9 rfl (lv_at hl 0 rfl) ?_
      refine va_get (D := D) (ci := 4) (v := .ref e0) (C := RX4) (T := TX4) (N := 3) hx hb hts hi_X4_tells_4 hown hK hP 0 rfl rfl 0 (by decide) (hts (.fieldLink RX4 9 "TheLiningsInIt$Shelf" "elements" "[J") (List.mem_of_getElem? (i := 1) rfl)) (fun _ h9 => h9) rfl dX4_tells_10 ?_
      refine lv_iload_n hx hb dX4_tells_13 rfl (lv_at hl 1 rfl) ?_
      refine va_lald hx hb hK hP 1 1 rfl rfl (zf_in (by omega) (by omega)) dX4_tells_14 ?_
      refine lv_topl (fun x_20 ex_20 => ?_)
      refine lv_l2i hx hb dX4_tells_15 rfl ?_
      refine lv_topi (fun x_21 ex_21 => ?_)
      refine lv_goto (tgt := 20) hx hb dX4_tells_16 (by decide) ?_
      exact W.iret (v := x_21) hx hb hr (fun t ht hW => ⟨x_21, rfl, (show (0 ≤ i.toInt → i.toInt < si.toInt → (x_21 : Int32) = (fe i.toNatClampNeg).toInt32) from by (intro _ _; rw [ex_21, ex_20])), ht⟩) (fun q hq => by cases hq) dX4_tells_20
set_option maxHeartbeats 4000000 in
set_option maxRecDepth 100000 in
theorem c_F_R_takeLetters (l : Launch) (D : va_G) (cI cJ cZ cP cS : ClassId) (po : zPool) (rd ri rl : Nat) (rz rc rp rf rt ru : Int32) (fl : Nat → Int32) (h0 e0 : Nat) (he si : Int32) (fe : Nat → Int64) (hy0 : 0 ≤ rz.toInt) (hy1 : rz.toInt ≤ 160) (hy2 : 0 ≤ rc.toInt) (hy3 : rc.toInt ≤ 40) (hy4 : 0 ≤ rp.toInt) (hy5 : rp.toInt ≤ 160) (hy6 : rp.toInt ≤ rz.toInt) (hy7 : (-1) ≤ rf.toInt) (hy8 : rf.toInt ≤ 160) (hy9 : 0 ≤ rt.toInt) (hy10 : rt.toInt ≤ 40) (hy11 : 0 ≤ ru.toInt) (hy12 : ru.toInt ≤ 8) (hy13 : (-1) ≤ he.toInt) (hy14 : he.toInt ≤ 103) (hy15 : 0 ≤ si.toInt) (hy16 : si.toInt ≤ 160) (hpz : Nat) : Met l yX3_takeLetters wsX3_takeLetters ({ frames := 2, cells := 0, slots := 0, locals := 43 }) (va_Pc [.ref rd, .ref h0] (zW D (zKT cI cJ cZ cP cS) po [(rd, .inr (3, [.ref ri, .ref rl, .int rz, .int rc, .int rp, .int rf, .int rt, .int ru])), (rl, .inl (cI, 160, .inl fl)), (h0, .inr (4, [.ref e0, .int he, .int si])), (e0, .inl (cJ, 160, .inr (.inl fe)))] hpz)) (va_Qv (fun (u : (Int32) × (Nat → Int32)) => (0 ≤ u.1.toInt ∧ u.1.toInt ≤ 160) ∧ (u.1.toInt = si.toInt) ∧ ((∀ j : Nat, (j : Int) < u.1.toInt → u.2 j = (fe j).toInt32)) ∧ (True)) (zB D [(rd, .inr (3, [.ref ri, .ref rl, .int rz, .int rc, .int rp, .int rf, .int rt, .int ru])), (rl, .inl (cI, 160, .inl fl)), (h0, .inr (4, [.ref e0, .int he, .int si])), (e0, .inl (cJ, 160, .inr (.inl fe)))] hpz (fun (u : (Int32) × (Nat → Int32)) => [(rd, .inr (3, [.ref ri, .ref rl, .int u.1, .int rc, .int rp, .int rf, .int rt, .int ru])), (rl, .inl (cI, 160, .inl u.2)), (h0, .inr (4, [.ref e0, .int he, .int si])), (e0, .inl (cJ, 160, .inr (.inl fe)))])) (va_A [(rd, .inr (3, [.ref ri, .ref rl, .int rz, .int rc, .int rp, .int rf, .int rt, .int ru])), (rl, .inl (cI, 160, .inl fl)), (h0, .inr (4, [.ref e0, .int he, .int si])), (e0, .inl (cJ, 160, .inr (.inl fe)))] hpz)) 0 0 (va_A [(rd, .inr (3, [.ref ri, .ref rl, .int rz, .int rc, .int rp, .int rf, .int rt, .int ru])), (rl, .inl (cI, 160, .inl fl)), (h0, .inr (4, [.ref e0, .int he, .int si])), (e0, .inl (cJ, 160, .inr (.inl fe)))] hpz) := by
  refine Met.ofW (cc := cX3_takeLetters) (maxL := 3) (ret := none) (by decide) rfl ?_
  intro p e s m args below meth c s₁ B hml hv
  obtain ⟨rfl, hsz, hP, hK, hD0, hN, hZ⟩ := hv
  have hx := B.exec
  have hb := B.bytes
  have hr := B.returns
  have hts := atoms_spec (ws := wsX3_takeLetters) B.pre
  have hown : s.vm.findClass RX3 = some m.cls := findClass_of_methodNamed B.named
  have hlocks := B.notSynchronized
  subst hsz
  have hD := hD0.self (sz := s.heap.size)
  have hA := zA_of hD
  have hl := lv_entry ([.ref rd, .ref h0]) (n := 3) (Nat.le_of_ble_eq_true rfl)
  rw [lg_entry_eq]
  generalize (lg_sl ([.ref rd, .ref h0]) ++ List.replicate (3 - (lg_sl ([.ref rd, .ref h0])).length) Slot.unset).toArray = ls at hl ⊢
  replace hl : lv_has ls 3 [(0, .ref rd), (1, .ref h0)] := hl
  refine zw_begin hP hD (fun H locs hP1 hS => ?_)
  clear hP
  have hP := hP1
  clear hP1
  refine lv_aload_n hx hb dX3_takeLetters_0 rfl (lv_at hl 0 rfl) ?_
  refine lv_aload_n hx hb dX3_takeLetters_1 rfl (lv_at hl 1 rfl) ?_
  refine va_get (D := D) (ci := 4) (v := .int si) (C := RX4) (T := TX4) (N := 3) hx hb hts hi_X3_takeLetters_4 hown hK hP 2 rfl rfl 2 (by decide) (hts (.fieldLink RX3 49 "TheLiningsInIt$Shelf" "size" "I") (List.mem_of_getElem? (i := 1) rfl)) (fun _ h9 => h9) rfl dX3_takeLetters_2 ?_
  refine lv_sipush (v := 160) hx hb dX3_takeLetters_5 (by decide) ?_
  refine va_mmin hx hb (hml.trans hl.1.symm) hown (hts (.methodLink RX3 52 Lib.Math.min.name) (List.mem_of_getElem? (i := 2) rfl)) (hts _ (List.mem_of_getElem? (i := 3) rfl)) (hts _ (List.mem_of_getElem? (i := 4) rfl)) (hts _ (List.mem_of_getElem? (i := 5) rfl)) (Nat.le_of_ble_eq_true rfl) (Nat.le_of_ble_eq_true rfl) (Nat.le_of_ble_eq_true rfl) (Nat.le_of_ble_eq_true rfl) dX3_takeLetters_8 ?_
  refine lv_topi (fun x_1 ex_1 => ?_)
  have qx_1 := zf_min ex_1 (x1 := si.toInt) (y1 := 160) rfl (by decide)
  refine va_put (D := D) (ci := 3) (v := .int x_1) (ty := .int) (C := RX3) (T := TX3) (N := 8) hx hb hts hi_X3_takeLetters_3 tyX3 tyX3_ok nmX3 hown hK hP hD hS 0 rfl rfl 2 (by decide) (hts (.fieldLink RX3 18 "TheLiningsInIt$Reader" "size" "I") (List.mem_of_getElem? (i := 6) rfl)) (fun _ h9 => h9) rfl (tyX3_ok 2 (Nat.le_of_ble_eq_true rfl)) rfl rfl (Nat.le_of_ble_eq_true rfl) dX3_takeLetters_11 (fun H locs hP hD hS => ?_)
  have h9R := zRe (ws' := [(rd, .inr (3, [.ref ri, .ref rl, .int x_1, .int rc, .int rp, .int rf, .int rt, .int ru])), (rl, .inl (cI, 160, .inl fl)), (h0, .inr (4, [.ref e0, .int he, .int si])), (e0, .inl (cJ, 160, .inr (.inl fe)))]) hP hD rfl
  clear hP hD
  obtain ⟨hP, hD⟩ := h9R
  refine lv_iconst (v := 0) hx hb dX3_takeLetters_14 (by decide) ?_
  refine lv_istore_n (lv' := [(2, .int 0), (0, .ref rd), (1, .ref h0)]) hx hb dX3_takeLetters_15 rfl hl (by decide) rfl (fun ls hl => ?_)
  obtain ⟨i_16, hi_16⟩ : ∃ i : Int32, i = 0 := ⟨_, rfl⟩
  replace hl : lv_has ls 3 [(2, .int i_16), (0, .ref rd), (1, .ref h0)] := by rw [hi_16]; exact lv_sub hl [0, 1, 2] rfl
  have h1i_16 : i_16.toInt = 0 := by rw [hi_16]; decide
  obtain ⟨nfu, hni_16⟩ : ∃ nq9 : Nat, 160 ≤ i_16.toInt + (nq9 : Int) := ⟨((160 : Int) - 0).toNat, by omega⟩
  have hloi_16 : 0 ≤ i_16.toInt := by omega
  obtain ⟨g_2, hg_2⟩ : ∃ g : Nat → Int32, g = fl := ⟨_, rfl⟩
  replace hP : va_P D vwCl [(rd, .inr (3, [.ref ri, .ref rl, .int x_1, .int rc, .int rp, .int rf, .int rt, .int ru])), (rl, .inl (cI, 160, .inl g_2)), (h0, .inr (4, [.ref e0, .int he, .int si])), (e0, .inl (cJ, 160, .inr (.inl fe)))] H := by rw [hg_2]; exact hP
  replace hD : va_D (va_A [(rd, .inr (3, [.ref ri, .ref rl, .int rz, .int rc, .int rp, .int rf, .int rt, .int ru])), (rl, .inl (cI, 160, .inl fl)), (h0, .inr (4, [.ref e0, .int he, .int si])), (e0, .inl (cJ, 160, .inr (.inl fe)))] s.heap.size) [(rd, .inr (3, [.ref ri, .ref rl, .int x_1, .int rc, .int rp, .int rf, .int rt, .int ru])), (rl, .inl (cI, 160, .inl g_2)), (h0, .inr (4, [.ref e0, .int he, .int si])), (e0, .inl (cJ, 160, .inr (.inl fe)))] := by rw [hg_2]; exact hD
  have hvi_16_0 : (∀ j : Nat, (j : Int) < i_16.toInt → g_2 j = (fe j).toInt32) := by
    (try rw [hi_16]); (try rw [hg_2]); (intro j hj; exfalso; have k0 : (0 : Int32).toInt = 0 := (by decide); omega)
  clear h1i_16 hi_16 hg_2
  skip
  revert hni_16
  revert hloi_16
  revert hvi_16_0
  revert hl
  revert hS
  revert hD
  revert hP
  revert ls
  revert locs
  revert H
  revert g_2
  revert i_16
  induction nfu with
  | zero =>
    intro i_16 g_2 H locs ls hP hD hS hl hvi_16_0 hloi_16 hni_16
    have hzi_16 : 160 ≤ i_16.toInt := by omega
    refine lv_iload_n hx hb dX3_takeLetters_16 rfl (lv_at hl 0 rfl) ?_
    refine lv_aload_n hx hb dX3_takeLetters_17 rfl (lv_at hl 1 rfl) ?_
    refine va_get (D := D) (ci := 3) (v := .int x_1) (C := RX3) (T := TX3) (N := 8) hx hb hts hi_X3_takeLetters_3 hown hK hP 0 rfl rfl 2 (by decide) (hts (.fieldLink RX3 18 "TheLiningsInIt$Reader" "size" "I") (List.mem_of_getElem? (i := 6) rfl)) (fun _ h9 => h9) rfl dX3_takeLetters_18 ?_
    refine lv_icmp_ge (tgt := 41) hx hb dX3_takeLetters_21 (by decide) (fun c_3 => ?_) (fun c_3 => ?_)
    · have fc_3 : x_1.toInt ≤ i_16.toInt := zf_le c_3 rfl rfl
      exact W.vret hx hb hr (fun t ht hW => ⟨⟨(x_1, g_2), rfl, ⟨(show 0 ≤ x_1.toInt ∧ x_1.toInt ≤ 160 from ⟨by omega, by omega⟩), (show x_1.toInt = si.toInt from by omega), (show (∀ j : Nat, (j : Int) < x_1.toInt → g_2 j = (fe j).toInt32) from by (intro j hj; exact hvi_16_0 j (by omega))), trivial⟩, zRet ht hP hD [0, 1, 2, 3] (by decide) rfl⟩, hS.F ht⟩) hS.2.2 dX3_takeLetters_41
    · exfalso; have fc_3 : i_16.toInt < x_1.toInt := zf_nle c_3 rfl rfl; omega
  | succ nfu ih =>
    intro i_16 g_2 H locs ls hP hD hS hl hvi_16_0 hloi_16 hni_16
    refine lv_iload_n hx hb dX3_takeLetters_16 rfl (lv_at hl 0 rfl) ?_
    refine lv_aload_n hx hb dX3_takeLetters_17 rfl (lv_at hl 1 rfl) ?_
    refine va_get (D := D) (ci := 3) (v := .int x_1) (C := RX3) (T := TX3) (N := 8) hx hb hts hi_X3_takeLetters_3 hown hK hP 0 rfl rfl 2 (by decide) (hts (.fieldLink RX3 18 "TheLiningsInIt$Reader" "size" "I") (List.mem_of_getElem? (i := 6) rfl)) (fun _ h9 => h9) rfl dX3_takeLetters_18 ?_
    refine lv_icmp_ge (tgt := 41) hx hb dX3_takeLetters_21 (by decide) (fun c_4 => ?_) (fun c_4 => ?_)
    · have fc_4 : x_1.toInt ≤ i_16.toInt := zf_le c_4 rfl rfl
      exact W.vret hx hb hr (fun t ht hW => ⟨⟨(x_1, g_2), rfl, ⟨(show 0 ≤ x_1.toInt ∧ x_1.toInt ≤ 160 from ⟨by omega, by omega⟩), (show x_1.toInt = si.toInt from by omega), (show (∀ j : Nat, (j : Int) < x_1.toInt → g_2 j = (fe j).toInt32) from by (intro j hj; exact hvi_16_0 j (by omega))), trivial⟩, zRet ht hP hD [0, 1, 2, 3] (by decide) rfl⟩, hS.F ht⟩) hS.2.2 dX3_takeLetters_41
    · have fc_4 : i_16.toInt < x_1.toInt := zf_nle c_4 rfl rfl
      refine lv_aload_n hx hb dX3_takeLetters_24 rfl (lv_at hl 1 rfl) ?_
      refine va_get (D := D) (ci := 3) (v := .ref rl) (C := RX3) (T := TX3) (N := 8) hx hb hts hi_X3_takeLetters_3 hown hK hP 0 rfl rfl 1 (by decide) (hts (.fieldLink RX3 15 "TheLiningsInIt$Reader" "letters" "[I") (List.mem_of_getElem? (i := 7) rfl)) (fun _ h9 => h9) rfl dX3_takeLetters_25 ?_
      refine lv_iload_n hx hb dX3_takeLetters_28 rfl (lv_at hl 0 rfl) ?_
      refine lv_aload_n hx hb dX3_takeLetters_29 rfl (lv_at hl 2 rfl) ?_
      refine lv_iload_n hx hb dX3_takeLetters_30 rfl (lv_at hl 0 rfl) ?_
      refine zc_V (As := [.int i_16]) (rest := [.int i_16, .ref rl]) ⟨hx, hb, hml, hown, hts⟩ (c_F_Sh_tells l D cI cJ cZ cP cS po h0 e0 (he) (si) fe (i_16) hy13 hy14 hy15 hy16) (cwV 1 hts gX3_takeLetters_X4_tells rfl rfl rfl ⟨rfl, dh_X4_tells⟩ ⟨Nat.le_of_ble_eq_true rfl, Nat.le_of_ble_eq_true rfl⟩) hK hN (hZ.kept hS) hP (hP.sub [2, 3] rfl) (va_recv (q := (RX4, TX4, 3)) hK hP (ci := 4) (q0 := 2) rfl rfl) rfl hl.1 rfl (Nat.le_of_ble_eq_true rfl) dX3_takeLetters_31 ⟨Nat.le_of_ble_eq_true rfl, Nat.le_of_ble_eq_true rfl⟩ (fun r_5 hr_5 => ?_)
      have hsr_5_0 := hr_5
      refine va_iast hx hb hK hP hD hS 1 0 rfl rfl (zf_in (by omega) (by omega)) dX3_takeLetters_34 (fun H locs hP hD hS => ?_)
      obtain ⟨g_6, hg_6⟩ : ∃ g : Nat → Int32, g = upd g_2 i_16.toNatClampNeg r_5 := ⟨_, rfl⟩
      rw [← hg_6] at hP hD
      have h9R := zRe (ws' := [(rd, .inr (3, [.ref ri, .ref rl, .int x_1, .int rc, .int rp, .int rf, .int rt, .int ru])), (rl, .inl (cI, 160, .inl g_6)), (h0, .inr (4, [.ref e0, .int he, .int si])), (e0, .inl (cJ, 160, .inr (.inl fe)))]) hP hD rfl
      clear hP hD
      obtain ⟨hP, hD⟩ := h9R
      obtain ⟨x_7, ex_7⟩ : ∃ y : Int32, y = i_16 + 1 := ⟨_, rfl⟩
      have qx_7 : x_7.toInt = i_16.toInt + 1 := dw_inc ex_7 fc_4
      refine lv_iinc (v := x_7) (lv' := [(2, .int x_7), (0, .ref rd), (1, .ref h0)]) hx hb dX3_takeLetters_35 hl (k := 0) rfl ex_7.symm (by decide) rfl (fun ls hl => ?_)
      refine lv_goto (tgt := 16) hx hb dX3_takeLetters_38 (by decide) ?_
      exact ih x_7 (g_6) _ _ _ (hP.sub [0, 1, 2, 3] rfl) (hD.sub [0, 1, 2, 3] (by decide) rfl) hS (lv_sub hl [0, 1, 2] rfl) (show (∀ j : Nat, (j : Int) < x_7.toInt → g_6 j = (fe j).toInt32) from by (intro j hj; rw [hg_6]; simp only [upd]; by_cases e9 : j = i_16.toNatClampNeg; (rw [if_pos e9, hsr_5_0 (by omega) (by omega), e9]); (have h7 : i_16.toNatClampNeg = i_16.toInt.toNat := rfl; rw [if_neg e9]; exact hvi_16_0 j (by omega)))) (dw_lo hloi_16 qx_7) (dw_hn hni_16 qx_7)
set_option maxHeartbeats 4000000 in
set_option maxRecDepth 100000 in
theorem c_F_R_read (l : Launch) (D : va_G) (cI cJ cZ cP cS : ClassId) (po : zPool) (rd ri rl : Nat) (rz rc rp rf rt ru : Int32) (fl : Nat → Int32) (fi : Nat → Int32) (h0 e0 : Nat) (he si : Int32) (fe : Nat → Int64) (te pu : Int32) (hy0 : 0 ≤ rz.toInt) (hy1 : rz.toInt ≤ 160) (hy2 : 0 ≤ rc.toInt) (hy3 : rc.toInt ≤ 40) (hy4 : 0 ≤ rp.toInt) (hy5 : rp.toInt ≤ 160) (hy6 : rp.toInt ≤ rz.toInt) (hy7 : (-1) ≤ rf.toInt) (hy8 : rf.toInt ≤ 160) (hy9 : 0 ≤ rt.toInt) (hy10 : rt.toInt ≤ 40) (hy11 : 0 ≤ ru.toInt) (hy12 : ru.toInt ≤ 8) (hy13 : (-1) ≤ he.toInt) (hy14 : he.toInt ≤ 103) (hy15 : 0 ≤ si.toInt) (hy16 : si.toInt ≤ 160) (hy17 : 4 ≤ te.toInt) (hy18 : te.toInt ≤ 40) (hy19 : 0 ≤ pu.toInt) (hy20 : pu.toInt ≤ 8) (hpz : Nat) : Met l yX3_read wsX3_read ({ frames := 7, cells := 0, slots := 0, locals := 154 }) (va_Pc [.ref rd, .ref h0, .int te, .int pu] (zW D (zKT cI cJ cZ cP cS) po [(rd, .inr (3, [.ref ri, .ref rl, .int rz, .int rc, .int rp, .int rf, .int rt, .int ru])), (rl, .inl (cI, 160, .inl fl)), (ri, .inl (cI, 132, .inl fi)), (h0, .inr (4, [.ref e0, .int he, .int si])), (e0, .inl (cJ, 160, .inr (.inl fe)))] hpz)) (va_Qi (fun (r : Int32) (u : (Int32) × (Int32) × (Int32) × (Int32) × (Int32) × (Int32) × (Nat → Int32) × (Nat → Int32)) => (0 ≤ u.1.toInt ∧ u.1.toInt ≤ 160) ∧ (0 ≤ u.2.1.toInt ∧ u.2.1.toInt ≤ 33) ∧ (0 ≤ u.2.2.1.toInt ∧ u.2.2.1.toInt ≤ 160) ∧ ((-1) ≤ u.2.2.2.1.toInt ∧ u.2.2.2.1.toInt ≤ 160) ∧ (0 ≤ u.2.2.2.2.1.toInt ∧ u.2.2.2.2.1.toInt ≤ 40) ∧ (0 ≤ u.2.2.2.2.2.1.toInt ∧ u.2.2.2.2.2.1.toInt ≤ 8) ∧ (u.2.2.1.toInt ≤ u.1.toInt) ∧ (r.toInt = u.2.2.2.1.toInt) ∧ ((r.toInt = -1 → ∀ k : Nat, k < u.2.1.toInt.toNat → zIt u.2.2.2.2.2.2.1 (4 * k))) ∧ (u.1.toInt = si.toInt) ∧ ((∀ j : Nat, (j : Int) < u.1.toInt → u.2.2.2.2.2.2.2 j = (fe j).toInt32)) ∧ (zEnd u.2.2.2.2.2.2.2 u.1.toInt te.toInt pu.toInt (u.2.1.toInt - 1).toNat u.2.2.2.1.toInt u.2.2.2.2.1.toInt u.2.2.2.2.2.1.toInt) ∧ (1 ≤ u.2.1.toInt) ∧ ((u.2.2.2.1.toInt = -1 → u.2.2.2.2.2.1.toInt = pu.toInt + zCP u.2.2.2.2.2.2.1 u.2.1.toInt.toNat ∧ u.2.2.2.2.1.toInt = zLT u.2.2.2.2.2.2.1 te.toInt u.2.1.toInt.toNat)) ∧ ((u.2.2.2.1.toInt = -1 → ∀ k : Nat, k < u.2.1.toInt.toNat → zKI u.2.2.2.2.2.2.2 u.1.toInt te.toInt pu.toInt u.2.2.2.2.2.2.1 k)) ∧ (-1 ≤ r.toInt ∧ r.toInt ≤ 160)) (zB D [(rd, .inr (3, [.ref ri, .ref rl, .int rz, .int rc, .int rp, .int rf, .int rt, .int ru])), (rl, .inl (cI, 160, .inl fl)), (ri, .inl (cI, 132, .inl fi)), (h0, .inr (4, [.ref e0, .int he, .int si])), (e0, .inl (cJ, 160, .inr (.inl fe)))] hpz (fun (u : (Int32) × (Int32) × (Int32) × (Int32) × (Int32) × (Int32) × (Nat → Int32) × (Nat → Int32)) => [(rd, .inr (3, [.ref ri, .ref rl, .int u.1, .int u.2.1, .int u.2.2.1, .int u.2.2.2.1, .int u.2.2.2.2.1, .int u.2.2.2.2.2.1])), (rl, .inl (cI, 160, .inl u.2.2.2.2.2.2.2)), (ri, .inl (cI, 132, .inl u.2.2.2.2.2.2.1)), (h0, .inr (4, [.ref e0, .int he, .int si])), (e0, .inl (cJ, 160, .inr (.inl fe)))])) (va_A [(rd, .inr (3, [.ref ri, .ref rl, .int rz, .int rc, .int rp, .int rf, .int rt, .int ru])), (rl, .inl (cI, 160, .inl fl)), (ri, .inl (cI, 132, .inl fi)), (h0, .inr (4, [.ref e0, .int he, .int si])), (e0, .inl (cJ, 160, .inr (.inl fe)))] hpz)) 0 0 (va_A [(rd, .inr (3, [.ref ri, .ref rl, .int rz, .int rc, .int rp, .int rf, .int rt, .int ru])), (rl, .inl (cI, 160, .inl fl)), (ri, .inl (cI, 132, .inl fi)), (h0, .inr (4, [.ref e0, .int he, .int si])), (e0, .inl (cJ, 160, .inr (.inl fe)))] hpz) := by
  refine Met.ofW (cc := cX3_read) (maxL := 5) (ret := (some .int)) (by decide) rfl ?_
  intro p e s m args below meth c s₁ B hml hv
  obtain ⟨rfl, hsz, hP, hK, hD0, hN, hZ⟩ := hv
  have hx := B.exec
  have hb := B.bytes
  have hr := B.returns
  have hts := atoms_spec (ws := wsX3_read) B.pre
  have hown : s.vm.findClass RX3 = some m.cls := findClass_of_methodNamed B.named
  have hlocks := B.notSynchronized
  subst hsz
  have hD := hD0.self (sz := s.heap.size)
  have hA := zA_of hD
  have hl := lv_entry ([.ref rd, .ref h0, .int te, .int pu]) (n := 5) (Nat.le_of_ble_eq_true rfl)
  rw [lg_entry_eq]
  generalize (lg_sl ([.ref rd, .ref h0, .int te, .int pu]) ++ List.replicate (5 - (lg_sl ([.ref rd, .ref h0, .int te, .int pu])).length) Slot.unset).toArray = ls at hl ⊢
  replace hl : lv_has ls 5 [(0, .ref rd), (1, .ref h0), (2, .int te), (3, .int pu)] := hl
  refine zw_begin hP hD (fun H locs hP1 hS => ?_)
  clear hP
  have hP := hP1
  clear hP1
  refine lv_aload_n hx hb dX3_read_0 rfl (lv_at hl 0 rfl) ?_
  refine lv_aload_n hx hb dX3_read_1 rfl (lv_at hl 1 rfl) ?_
  skip
  refine zw_Vv (As := [.ref h0]) (rest := []) (wr := [(ri, .inl (cI, 132, .inl fi))]) ⟨hx, hb, hml, hown, hts⟩ (c_F_R_takeLetters l D cI cJ cZ cP cS po rd ri rl (rz) (rc) (rp) (rf) (rt) (ru) fl h0 e0 (he) (si) fe hy0 hy1 hy2 hy3 hy4 hy5 (by omega) hy7 hy8 hy9 hy10 hy11 hy12 hy13 hy14 hy15 hy16 H.size) (cwV 1 hts gX3_read_X3_takeLetters rfl rfl rfl ⟨rfl, dh_X3_takeLetters⟩ ⟨Nat.le_of_ble_eq_true rfl, Nat.le_of_ble_eq_true rfl⟩) hK hN (hZ.kept hS) hP hD hS hA [0, 1, 3, 4] [2] rfl rfl (by decide) (by decide) (by decide) (va_recv (q := (RX3, TX3, 8)) hK hP (ci := 3) (q0 := 0) rfl rfl) rfl hl.1 rfl (Nat.le_of_ble_eq_true rfl) dX3_read_2 ⟨Nat.le_of_ble_eq_true rfl, Nat.le_of_ble_eq_true rfl⟩ (fun u_2 H locs hr_1 hP hD hS => ?_)
  obtain ⟨q_3, q_4⟩ := u_2
  try dsimp only at hr_1
  obtain ⟨hbq_3, hsr_1_0, hsr_1_1, hr_1⟩ := hr_1
  have h9R := zRe (ws' := [(ri, .inl (cI, 132, .inl fi)), (rd, .inr (3, [.ref ri, .ref rl, .int q_3, .int rc, .int rp, .int rf, .int rt, .int ru])), (rl, .inl (cI, 160, .inl q_4)), (h0, .inr (4, [.ref e0, .int he, .int si])), (e0, .inl (cJ, 160, .inr (.inl fe)))]) hP hD rfl
  clear hP hD
  obtain ⟨hP, hD⟩ := h9R
  refine lv_aload_n hx hb dX3_read_5 rfl (lv_at hl 0 rfl) ?_
  refine lv_iload_n hx hb dX3_read_6 rfl (lv_at hl 2 rfl) ?_
  refine va_put (D := D) (ci := 3) (v := .int te) (ty := .int) (C := RX3) (T := TX3) (N := 8) hx hb hts hi_X3_read_3 tyX3 tyX3_ok nmX3 hown hK hP hD hS 1 rfl rfl 6 (by decide) (hts (.fieldLink RX3 31 "TheLiningsInIt$Reader" "teeth" "I") (List.mem_of_getElem? (i := 1) rfl)) (fun _ h9 => h9) rfl (tyX3_ok 6 (Nat.le_of_ble_eq_true rfl)) rfl rfl (Nat.le_of_ble_eq_true rfl) dX3_read_7 (fun H locs hP hD hS => ?_)
  have h9R := zRe (ws' := [(ri, .inl (cI, 132, .inl fi)), (rd, .inr (3, [.ref ri, .ref rl, .int q_3, .int rc, .int rp, .int rf, .int te, .int ru])), (rl, .inl (cI, 160, .inl q_4)), (h0, .inr (4, [.ref e0, .int he, .int si])), (e0, .inl (cJ, 160, .inr (.inl fe)))]) hP hD rfl
  clear hP hD
  obtain ⟨hP, hD⟩ := h9R
  refine lv_aload_n hx hb dX3_read_10 rfl (lv_at hl 0 rfl) ?_
  refine lv_iload_n hx hb dX3_read_11 rfl (lv_at hl 3 rfl) ?_
  refine va_put (D := D) (ci := 3) (v := .int pu) (ty := .int) (C := RX3) (T := TX3) (N := 8) hx hb hts hi_X3_read_3 tyX3 tyX3_ok nmX3 hown hK hP hD hS 1 rfl rfl 7 (by decide) (hts (.fieldLink RX3 34 "TheLiningsInIt$Reader" "pulls" "I") (List.mem_of_getElem? (i := 2) rfl)) (fun _ h9 => h9) rfl (tyX3_ok 7 (Nat.le_of_ble_eq_true rfl)) rfl rfl (Nat.le_of_ble_eq_true rfl) dX3_read_12 (fun H locs hP hD hS => ?_)
  have h9R := zRe (ws' := [(ri, .inl (cI, 132, .inl fi)), (rd, .inr (3, [.ref ri, .ref rl, .int q_3, .int rc, .int rp, .int rf, .int te, .int pu])), (rl, .inl (cI, 160, .inl q_4)), (h0, .inr (4, [.ref e0, .int he, .int si])), (e0, .inl (cJ, 160, .inr (.inl fe)))]) hP hD rfl
  clear hP hD
  obtain ⟨hP, hD⟩ := h9R
  refine lv_aload_n hx hb dX3_read_15 rfl (lv_at hl 0 rfl) ?_
  refine lv_iconst (v := 0) hx hb dX3_read_16 (by decide) ?_
  refine va_put (D := D) (ci := 3) (v := .int 0) (ty := .int) (C := RX3) (T := TX3) (N := 8) hx hb hts hi_X3_read_3 tyX3 tyX3_ok nmX3 hown hK hP hD hS 1 rfl rfl 4 (by decide) (hts (.fieldLink RX3 25 "TheLiningsInIt$Reader" "place" "I") (List.mem_of_getElem? (i := 3) rfl)) (fun _ h9 => h9) rfl (tyX3_ok 4 (Nat.le_of_ble_eq_true rfl)) rfl rfl (Nat.le_of_ble_eq_true rfl) dX3_read_17 (fun H locs hP hD hS => ?_)
  have h9R := zRe (ws' := [(ri, .inl (cI, 132, .inl fi)), (rd, .inr (3, [.ref ri, .ref rl, .int q_3, .int rc, .int 0, .int rf, .int te, .int pu])), (rl, .inl (cI, 160, .inl q_4)), (h0, .inr (4, [.ref e0, .int he, .int si])), (e0, .inl (cJ, 160, .inr (.inl fe)))]) hP hD rfl
  clear hP hD
  obtain ⟨hP, hD⟩ := h9R
  refine lv_aload_n hx hb dX3_read_20 rfl (lv_at hl 0 rfl) ?_
  refine lv_iconst (v := (-1)) hx hb dX3_read_21 (by decide) ?_
  refine va_put (D := D) (ci := 3) (v := .int (-1)) (ty := .int) (C := RX3) (T := TX3) (N := 8) hx hb hts hi_X3_read_3 tyX3 tyX3_ok nmX3 hown hK hP hD hS 1 rfl rfl 5 (by decide) (hts (.fieldLink RX3 28 "TheLiningsInIt$Reader" "fault" "I") (List.mem_of_getElem? (i := 4) rfl)) (fun _ h9 => h9) rfl (tyX3_ok 5 (Nat.le_of_ble_eq_true rfl)) rfl rfl (Nat.le_of_ble_eq_true rfl) dX3_read_22 (fun H locs hP hD hS => ?_)
  have h9R := zRe (ws' := [(ri, .inl (cI, 132, .inl fi)), (rd, .inr (3, [.ref ri, .ref rl, .int q_3, .int rc, .int 0, .int (-1), .int te, .int pu])), (rl, .inl (cI, 160, .inl q_4)), (h0, .inr (4, [.ref e0, .int he, .int si])), (e0, .inl (cJ, 160, .inr (.inl fe)))]) hP hD rfl
  clear hP hD
  obtain ⟨hP, hD⟩ := h9R
  refine lv_iconst (v := 1) hx hb dX3_read_25 (by decide) ?_
  refine lv_istore (lv' := [(4, .int 1), (0, .ref rd), (1, .ref h0), (2, .int te), (3, .int pu)]) hx hb dX3_read_26 hl (by decide) rfl (fun ls hl => ?_)
  refine lv_aload_n hx hb dX3_read_28 rfl (lv_at hl 1 rfl) ?_
  refine lv_iconst (v := 0) hx hb dX3_read_29 (by decide) ?_
  refine va_put (D := D) (ci := 3) (v := .int 0) (ty := .int) (C := RX3) (T := TX3) (N := 8) hx hb hts hi_X3_read_3 tyX3 tyX3_ok nmX3 hown hK hP hD hS 1 rfl rfl 3 (by decide) (hts (.fieldLink RX3 22 "TheLiningsInIt$Reader" "count" "I") (List.mem_of_getElem? (i := 5) rfl)) (fun _ h9 => h9) rfl (tyX3_ok 3 (Nat.le_of_ble_eq_true rfl)) rfl rfl (Nat.le_of_ble_eq_true rfl) dX3_read_30 (fun H locs hP hD hS => ?_)
  have h9R := zRe (ws' := [(ri, .inl (cI, 132, .inl fi)), (rd, .inr (3, [.ref ri, .ref rl, .int q_3, .int 0, .int 0, .int (-1), .int te, .int pu])), (rl, .inl (cI, 160, .inl q_4)), (h0, .inr (4, [.ref e0, .int he, .int si])), (e0, .inl (cJ, 160, .inr (.inl fe)))]) hP hD rfl
  clear hP hD
  obtain ⟨hP, hD⟩ := h9R
  obtain ⟨i_33, hi_33⟩ : ∃ i : Int32, i = 0 := ⟨_, rfl⟩
  replace hl : lv_has ls 5 [(4, .int 1), (0, .ref rd), (1, .ref h0), (2, .int te), (3, .int pu)] := lv_sub hl [0, 1, 2, 3, 4] rfl
  replace hP : va_P D vwCl [(ri, .inl (cI, 132, .inl fi)), (rd, .inr (3, [.ref ri, .ref rl, .int q_3, .int i_33, .int 0, .int (-1), .int te, .int pu])), (rl, .inl (cI, 160, .inl q_4)), (h0, .inr (4, [.ref e0, .int he, .int si])), (e0, .inl (cJ, 160, .inr (.inl fe)))] H := by rw [hi_33]; exact hP
  replace hD : va_D (va_A [(rd, .inr (3, [.ref ri, .ref rl, .int rz, .int rc, .int rp, .int rf, .int rt, .int ru])), (rl, .inl (cI, 160, .inl fl)), (ri, .inl (cI, 132, .inl fi)), (h0, .inr (4, [.ref e0, .int he, .int si])), (e0, .inl (cJ, 160, .inr (.inl fe)))] s.heap.size) [(ri, .inl (cI, 132, .inl fi)), (rd, .inr (3, [.ref ri, .ref rl, .int q_3, .int i_33, .int 0, .int (-1), .int te, .int pu])), (rl, .inl (cI, 160, .inl q_4)), (h0, .inr (4, [.ref e0, .int he, .int si])), (e0, .inl (cJ, 160, .inr (.inl fe)))] := by rw [hi_33]; exact hD
  have h1i_33 : i_33.toInt = 0 := by rw [hi_33]; decide
  obtain ⟨nfu, hni_33⟩ : ∃ nq9 : Nat, 33 ≤ i_33.toInt + (nq9 : Int) := ⟨((33 : Int) - 0).toNat, by omega⟩
  have hloi_33 : 0 ≤ i_33.toInt := by omega
  obtain ⟨g_5, hg_5⟩ : ∃ g : Nat → Int32, g = fi := ⟨_, rfl⟩
  obtain ⟨v_6, hv_6⟩ : ∃ g : Int32, g = 0 := ⟨_, rfl⟩
  have hbv_6 : 0 ≤ v_6.toInt ∧ v_6.toInt ≤ 160 := by rw [hv_6]; exact ⟨by decide, by decide⟩
  obtain ⟨v_7, hv_7⟩ : ∃ g : Int32, g = (-1) := ⟨_, rfl⟩
  have hbv_7 : -1 ≤ v_7.toInt ∧ v_7.toInt ≤ 160 := by rw [hv_7]; exact ⟨by decide, by decide⟩
  obtain ⟨v_8, hv_8⟩ : ∃ g : Int32, g = te := ⟨_, rfl⟩
  have hbv_8 : 0 ≤ v_8.toInt ∧ v_8.toInt ≤ 40 := by rw [hv_8]; exact ⟨by omega, by omega⟩
  obtain ⟨v_9, hv_9⟩ : ∃ g : Int32, g = pu := ⟨_, rfl⟩
  have hbv_9 : 0 ≤ v_9.toInt ∧ v_9.toInt ≤ 8 := by rw [hv_9]; exact ⟨by omega, by omega⟩
  replace hP : va_P D vwCl [(ri, .inl (cI, 132, .inl g_5)), (rd, .inr (3, [.ref ri, .ref rl, .int q_3, .int i_33, .int v_6, .int v_7, .int v_8, .int v_9])), (rl, .inl (cI, 160, .inl q_4)), (h0, .inr (4, [.ref e0, .int he, .int si])), (e0, .inl (cJ, 160, .inr (.inl fe)))] H := by rw [hg_5, hv_6, hv_7, hv_8, hv_9]; exact hP
  replace hD : va_D (va_A [(rd, .inr (3, [.ref ri, .ref rl, .int rz, .int rc, .int rp, .int rf, .int rt, .int ru])), (rl, .inl (cI, 160, .inl fl)), (ri, .inl (cI, 132, .inl fi)), (h0, .inr (4, [.ref e0, .int he, .int si])), (e0, .inl (cJ, 160, .inr (.inl fe)))] s.heap.size) [(ri, .inl (cI, 132, .inl g_5)), (rd, .inr (3, [.ref ri, .ref rl, .int q_3, .int i_33, .int v_6, .int v_7, .int v_8, .int v_9])), (rl, .inl (cI, 160, .inl q_4)), (h0, .inr (4, [.ref e0, .int he, .int si])), (e0, .inl (cJ, 160, .inr (.inl fe)))] := by rw [hg_5, hv_6, hv_7, hv_8, hv_9]; exact hD
  obtain ⟨v_10, hv_10⟩ : ∃ g : Int32, g = 1 := ⟨_, rfl⟩
  replace hl : lv_has ls 5 [(4, .int v_10), (0, .ref rd), (1, .ref h0), (2, .int te), (3, .int pu)] := by rw [hv_10]; exact hl
  have hbv_10 : 0 ≤ v_10.toInt ∧ v_10.toInt ≤ 1 := by rw [hv_10]; exact ⟨by decide, by decide⟩
  have hvi_33_0 : (v_6 : Int32).toInt ≤ (q_3 : Int32).toInt := by
    (try rw [hi_33]); (try rw [hg_5]); (try rw [hv_6]); (try rw [hv_7]); (try rw [hv_8]); (try rw [hv_9]); (try rw [hv_10]); first | omega | (simp; omega)
  have hvi_33_1 : ((v_7 : Int32).toInt = -1 → ∀ k : Nat, k < i_33.toInt.toNat → zIt g_5 (4 * k)) := by
    (try rw [hi_33]); (try rw [hg_5]); (try rw [hv_6]); (try rw [hv_7]); (try rw [hv_8]); (try rw [hv_9]); (try rw [hv_10]); (intro _ k hk; simp at hk)
  have hvi_33_2 : i_33.toInt ≤ 33 := by
    (try rw [hi_33]); (try rw [hg_5]); (try rw [hv_6]); (try rw [hv_7]); (try rw [hv_8]); (try rw [hv_9]); (try rw [hv_10]); first | omega | simp
  have hvi_33_3 : ((v_10 : Int32).toInt = 1 → (v_7 : Int32).toInt = -1) := by
    (try rw [hi_33]); (try rw [hg_5]); (try rw [hv_6]); (try rw [hv_7]); (try rw [hv_8]); (try rw [hv_9]); (try rw [hv_10]); (intro _; decide)
  have hvi_33_4 : ((v_10 : Int32).toInt = 1 → zRgo q_4 (q_3 : Int32).toInt te.toInt pu.toInt i_33.toInt.toNat = some ((v_6 : Int32).toInt, (v_8 : Int32).toInt, (v_9 : Int32).toInt)) := by
    (try rw [hi_33]); (try rw [hg_5]); (try rw [hv_6]); (try rw [hv_7]); (try rw [hv_8]); (try rw [hv_9]); (try rw [hv_10]); (intro _; rw [show ((0 : Int32).toInt.toNat) = 0 from by decide, show ((0 : Int32).toInt) = 0 from by decide]; rfl)
  have hvi_33_5 : ((v_10 : Int32).toInt = 0 → 1 ≤ i_33.toInt ∧ zEnd q_4 (q_3 : Int32).toInt te.toInt pu.toInt (i_33.toInt - 1).toNat (v_7 : Int32).toInt (v_8 : Int32).toInt (v_9 : Int32).toInt) := by
    (try rw [hi_33]); (try rw [hg_5]); (try rw [hv_6]); (try rw [hv_7]); (try rw [hv_8]); (try rw [hv_9]); (try rw [hv_10]); (intro h; exact absurd h (by decide))
  have hvi_33_6 : ((v_7 : Int32).toInt = -1 → (v_9 : Int32).toInt = pu.toInt + zCP g_5 i_33.toInt.toNat ∧ (v_8 : Int32).toInt = zLT g_5 te.toInt i_33.toInt.toNat) := by
    (try rw [hi_33]); (try rw [hg_5]); (try rw [hv_6]); (try rw [hv_7]); (try rw [hv_8]); (try rw [hv_9]); (try rw [hv_10]); (intro _; rw [show ((0 : Int32).toInt.toNat) = 0 from by decide]; first | (unfold zCP zLT; omega) | (simp [zCP, zLT]; done) | (simp [zCP, zLT]; omega))
  have hvi_33_7 : ((v_7 : Int32).toInt = -1 → ∀ k : Nat, k < i_33.toInt.toNat → zKI q_4 (q_3 : Int32).toInt te.toInt pu.toInt g_5 k) := by
    (try rw [hi_33]); (try rw [hg_5]); (try rw [hv_6]); (try rw [hv_7]); (try rw [hv_8]); (try rw [hv_9]); (try rw [hv_10]); (intro _ k hk; simp at hk)
  clear h1i_33 hi_33 hg_5 hv_6 hv_7 hv_8 hv_9 hv_10
  skip
  revert hni_33
  revert hloi_33
  revert hvi_33_7
  revert hvi_33_6
  revert hvi_33_5
  revert hvi_33_4
  revert hvi_33_3
  revert hvi_33_2
  revert hvi_33_1
  revert hvi_33_0
  revert hbv_10
  revert hbv_9
  revert hbv_8
  revert hbv_7
  revert hbv_6
  revert hl
  revert hS
  revert hD
  revert hP
  revert ls
  revert locs
  revert H
  revert g_5
  revert v_6
  revert v_7
  revert v_8
  revert v_9
  revert v_10
  revert i_33
  induction nfu with
  | zero =>
    intro i_33 v_10 v_9 v_8 v_7 v_6 g_5 H locs ls hP hD hS hl hbv_6 hbv_7 hbv_8 hbv_9 hbv_10 hvi_33_0 hvi_33_1 hvi_33_2 hvi_33_3 hvi_33_4 hvi_33_5 hvi_33_6 hvi_33_7 hloi_33 hni_33
    have hzi_33 : 33 ≤ i_33.toInt := by omega
    refine lv_iload hx hb dX3_read_33 (lv_at hl 0 rfl) ?_
    refine lv_if_eq (tgt := 122) hx hb dX3_read_35 (by decide) (fun c_11 => ?_) (fun c_11 => ?_)
    · have fc_11 : v_10.toInt = 0 := zf_eq c_11 rfl (by decide)
      refine lv_aload_n hx hb dX3_read_122 rfl (lv_at hl 1 rfl) ?_
      refine va_get (D := D) (ci := 3) (v := .int v_7) (C := RX3) (T := TX3) (N := 8) hx hb hts hi_X3_read_3 hown hK hP 1 rfl rfl 5 (by decide) (hts (.fieldLink RX3 28 "TheLiningsInIt$Reader" "fault" "I") (List.mem_of_getElem? (i := 4) rfl)) (fun _ h9 => h9) rfl dX3_read_123 ?_
      exact W.iret (v := v_7) hx hb hr (fun t ht hW => ⟨⟨v_7, (q_3, i_33, v_6, v_7, v_8, v_9, g_5, q_4), rfl, ⟨(show 0 ≤ q_3.toInt ∧ q_3.toInt ≤ 160 from hbq_3), (show 0 ≤ i_33.toInt ∧ i_33.toInt ≤ 33 from ⟨by omega, by omega⟩), (show 0 ≤ v_6.toInt ∧ v_6.toInt ≤ 160 from hbv_6), (show (-1) ≤ v_7.toInt ∧ v_7.toInt ≤ 160 from hbv_7), (show 0 ≤ v_8.toInt ∧ v_8.toInt ≤ 40 from hbv_8), (show 0 ≤ v_9.toInt ∧ v_9.toInt ≤ 8 from hbv_9), (show v_6.toInt ≤ q_3.toInt from by omega), (show (v_7 : Int32).toInt = v_7.toInt from by rfl), (show ((v_7 : Int32).toInt = -1 → ∀ k : Nat, k < i_33.toInt.toNat → zIt g_5 (4 * k)) from by exact hvi_33_1), (show q_3.toInt = si.toInt from by omega), (show (∀ j : Nat, (j : Int) < q_3.toInt → q_4 j = (fe j).toInt32) from by exact hsr_1_1), (show zEnd q_4 q_3.toInt te.toInt pu.toInt (i_33.toInt - 1).toNat v_7.toInt v_8.toInt v_9.toInt from by (rcases (show (v_10 : Int32).toInt = 0 ∨ (v_10 : Int32).toInt = 1 by omega) with h | h; exact (hvi_33_5 h).2; (exfalso; have z := zRgo_rg (by omega) ⟨by omega, by omega⟩ ⟨by omega, by omega⟩ _ _ _ _ (hvi_33_4 h); omega))), (show 1 ≤ i_33.toInt from by (rcases (show (v_10 : Int32).toInt = 0 ∨ (v_10 : Int32).toInt = 1 by omega) with h | h; exact (hvi_33_5 h).1; (exfalso; have z := zRgo_rg (by omega) ⟨by omega, by omega⟩ ⟨by omega, by omega⟩ _ _ _ _ (hvi_33_4 h); omega))), (show (v_7.toInt = -1 → v_9.toInt = pu.toInt + zCP g_5 i_33.toInt.toNat ∧ v_8.toInt = zLT g_5 te.toInt i_33.toInt.toNat) from by exact hvi_33_6), (show (v_7.toInt = -1 → ∀ k : Nat, k < i_33.toInt.toNat → zKI q_4 q_3.toInt te.toInt pu.toInt g_5 k) from by exact hvi_33_7), ⟨by omega, by omega⟩⟩, zRet ht hP hD [1, 2, 0, 3, 4] (by decide) rfl⟩, hS.F ht⟩) hS.2.2 dX3_read_126
    · have fc_11 : v_10.toInt ≠ 0 := zf_ne c_11 rfl (by decide)
      refine lv_aload_n hx hb dX3_read_38 rfl (lv_at hl 1 rfl) ?_
      refine va_get (D := D) (ci := 3) (v := .int i_33) (C := RX3) (T := TX3) (N := 8) hx hb hts hi_X3_read_3 hown hK hP 1 rfl rfl 3 (by decide) (hts (.fieldLink RX3 22 "TheLiningsInIt$Reader" "count" "I") (List.mem_of_getElem? (i := 5) rfl)) (fun _ h9 => h9) rfl dX3_read_39 ?_
      refine lv_bipush (v := 33) hx hb dX3_read_42 (by decide) ?_
      refine lv_icmp_ge (tgt := 122) hx hb dX3_read_44 (by decide) (fun c_12 => ?_) (fun c_12 => ?_)
      · have fc_12 : 33 ≤ i_33.toInt := zf_le c_12 (by decide) rfl
        refine lv_aload_n hx hb dX3_read_122 rfl (lv_at hl 1 rfl) ?_
        refine va_get (D := D) (ci := 3) (v := .int v_7) (C := RX3) (T := TX3) (N := 8) hx hb hts hi_X3_read_3 hown hK hP 1 rfl rfl 5 (by decide) (hts (.fieldLink RX3 28 "TheLiningsInIt$Reader" "fault" "I") (List.mem_of_getElem? (i := 4) rfl)) (fun _ h9 => h9) rfl dX3_read_123 ?_
        exact W.iret (v := v_7) hx hb hr (fun t ht hW => ⟨⟨v_7, (q_3, i_33, v_6, v_7, v_8, v_9, g_5, q_4), rfl, ⟨(show 0 ≤ q_3.toInt ∧ q_3.toInt ≤ 160 from hbq_3), (show 0 ≤ i_33.toInt ∧ i_33.toInt ≤ 33 from ⟨by omega, by omega⟩), (show 0 ≤ v_6.toInt ∧ v_6.toInt ≤ 160 from hbv_6), (show (-1) ≤ v_7.toInt ∧ v_7.toInt ≤ 160 from hbv_7), (show 0 ≤ v_8.toInt ∧ v_8.toInt ≤ 40 from hbv_8), (show 0 ≤ v_9.toInt ∧ v_9.toInt ≤ 8 from hbv_9), (show v_6.toInt ≤ q_3.toInt from by omega), (show (v_7 : Int32).toInt = v_7.toInt from by rfl), (show ((v_7 : Int32).toInt = -1 → ∀ k : Nat, k < i_33.toInt.toNat → zIt g_5 (4 * k)) from by exact hvi_33_1), (show q_3.toInt = si.toInt from by omega), (show (∀ j : Nat, (j : Int) < q_3.toInt → q_4 j = (fe j).toInt32) from by exact hsr_1_1), (show zEnd q_4 q_3.toInt te.toInt pu.toInt (i_33.toInt - 1).toNat v_7.toInt v_8.toInt v_9.toInt from by (rcases (show (v_10 : Int32).toInt = 0 ∨ (v_10 : Int32).toInt = 1 by omega) with h | h; exact (hvi_33_5 h).2; (exfalso; have z := zRgo_rg (by omega) ⟨by omega, by omega⟩ ⟨by omega, by omega⟩ _ _ _ _ (hvi_33_4 h); omega))), (show 1 ≤ i_33.toInt from by (rcases (show (v_10 : Int32).toInt = 0 ∨ (v_10 : Int32).toInt = 1 by omega) with h | h; exact (hvi_33_5 h).1; (exfalso; have z := zRgo_rg (by omega) ⟨by omega, by omega⟩ ⟨by omega, by omega⟩ _ _ _ _ (hvi_33_4 h); omega))), (show (v_7.toInt = -1 → v_9.toInt = pu.toInt + zCP g_5 i_33.toInt.toNat ∧ v_8.toInt = zLT g_5 te.toInt i_33.toInt.toNat) from by exact hvi_33_6), (show (v_7.toInt = -1 → ∀ k : Nat, k < i_33.toInt.toNat → zKI q_4 q_3.toInt te.toInt pu.toInt g_5 k) from by exact hvi_33_7), ⟨by omega, by omega⟩⟩, zRet ht hP hD [1, 2, 0, 3, 4] (by decide) rfl⟩, hS.F ht⟩) hS.2.2 dX3_read_126
      · exfalso; have fc_12 : i_33.toInt < 33 := zf_nle c_12 (by decide) rfl; omega
  | succ nfu ih =>
    intro i_33 v_10 v_9 v_8 v_7 v_6 g_5 H locs ls hP hD hS hl hbv_6 hbv_7 hbv_8 hbv_9 hbv_10 hvi_33_0 hvi_33_1 hvi_33_2 hvi_33_3 hvi_33_4 hvi_33_5 hvi_33_6 hvi_33_7 hloi_33 hni_33
    refine lv_iload hx hb dX3_read_33 (lv_at hl 0 rfl) ?_
    refine lv_if_eq (tgt := 122) hx hb dX3_read_35 (by decide) (fun c_13 => ?_) (fun c_13 => ?_)
    · have fc_13 : v_10.toInt = 0 := zf_eq c_13 rfl (by decide)
      refine lv_aload_n hx hb dX3_read_122 rfl (lv_at hl 1 rfl) ?_
      refine va_get (D := D) (ci := 3) (v := .int v_7) (C := RX3) (T := TX3) (N := 8) hx hb hts hi_X3_read_3 hown hK hP 1 rfl rfl 5 (by decide) (hts (.fieldLink RX3 28 "TheLiningsInIt$Reader" "fault" "I") (List.mem_of_getElem? (i := 4) rfl)) (fun _ h9 => h9) rfl dX3_read_123 ?_
      exact W.iret (v := v_7) hx hb hr (fun t ht hW => ⟨⟨v_7, (q_3, i_33, v_6, v_7, v_8, v_9, g_5, q_4), rfl, ⟨(show 0 ≤ q_3.toInt ∧ q_3.toInt ≤ 160 from hbq_3), (show 0 ≤ i_33.toInt ∧ i_33.toInt ≤ 33 from ⟨by omega, by omega⟩), (show 0 ≤ v_6.toInt ∧ v_6.toInt ≤ 160 from hbv_6), (show (-1) ≤ v_7.toInt ∧ v_7.toInt ≤ 160 from hbv_7), (show 0 ≤ v_8.toInt ∧ v_8.toInt ≤ 40 from hbv_8), (show 0 ≤ v_9.toInt ∧ v_9.toInt ≤ 8 from hbv_9), (show v_6.toInt ≤ q_3.toInt from by omega), (show (v_7 : Int32).toInt = v_7.toInt from by rfl), (show ((v_7 : Int32).toInt = -1 → ∀ k : Nat, k < i_33.toInt.toNat → zIt g_5 (4 * k)) from by exact hvi_33_1), (show q_3.toInt = si.toInt from by omega), (show (∀ j : Nat, (j : Int) < q_3.toInt → q_4 j = (fe j).toInt32) from by exact hsr_1_1), (show zEnd q_4 q_3.toInt te.toInt pu.toInt (i_33.toInt - 1).toNat v_7.toInt v_8.toInt v_9.toInt from by (rcases (show (v_10 : Int32).toInt = 0 ∨ (v_10 : Int32).toInt = 1 by omega) with h | h; exact (hvi_33_5 h).2; (exfalso; have z := zRgo_rg (by omega) ⟨by omega, by omega⟩ ⟨by omega, by omega⟩ _ _ _ _ (hvi_33_4 h); omega))), (show 1 ≤ i_33.toInt from by (rcases (show (v_10 : Int32).toInt = 0 ∨ (v_10 : Int32).toInt = 1 by omega) with h | h; exact (hvi_33_5 h).1; (exfalso; have z := zRgo_rg (by omega) ⟨by omega, by omega⟩ ⟨by omega, by omega⟩ _ _ _ _ (hvi_33_4 h); omega))), (show (v_7.toInt = -1 → v_9.toInt = pu.toInt + zCP g_5 i_33.toInt.toNat ∧ v_8.toInt = zLT g_5 te.toInt i_33.toInt.toNat) from by exact hvi_33_6), (show (v_7.toInt = -1 → ∀ k : Nat, k < i_33.toInt.toNat → zKI q_4 q_3.toInt te.toInt pu.toInt g_5 k) from by exact hvi_33_7), ⟨by omega, by omega⟩⟩, zRet ht hP hD [1, 2, 0, 3, 4] (by decide) rfl⟩, hS.F ht⟩) hS.2.2 dX3_read_126
    · have fc_13 : v_10.toInt ≠ 0 := zf_ne c_13 rfl (by decide)
      refine lv_aload_n hx hb dX3_read_38 rfl (lv_at hl 1 rfl) ?_
      refine va_get (D := D) (ci := 3) (v := .int i_33) (C := RX3) (T := TX3) (N := 8) hx hb hts hi_X3_read_3 hown hK hP 1 rfl rfl 3 (by decide) (hts (.fieldLink RX3 22 "TheLiningsInIt$Reader" "count" "I") (List.mem_of_getElem? (i := 5) rfl)) (fun _ h9 => h9) rfl dX3_read_39 ?_
      refine lv_bipush (v := 33) hx hb dX3_read_42 (by decide) ?_
      refine lv_icmp_ge (tgt := 122) hx hb dX3_read_44 (by decide) (fun c_14 => ?_) (fun c_14 => ?_)
      · have fc_14 : 33 ≤ i_33.toInt := zf_le c_14 (by decide) rfl
        refine lv_aload_n hx hb dX3_read_122 rfl (lv_at hl 1 rfl) ?_
        refine va_get (D := D) (ci := 3) (v := .int v_7) (C := RX3) (T := TX3) (N := 8) hx hb hts hi_X3_read_3 hown hK hP 1 rfl rfl 5 (by decide) (hts (.fieldLink RX3 28 "TheLiningsInIt$Reader" "fault" "I") (List.mem_of_getElem? (i := 4) rfl)) (fun _ h9 => h9) rfl dX3_read_123 ?_
        exact W.iret (v := v_7) hx hb hr (fun t ht hW => ⟨⟨v_7, (q_3, i_33, v_6, v_7, v_8, v_9, g_5, q_4), rfl, ⟨(show 0 ≤ q_3.toInt ∧ q_3.toInt ≤ 160 from hbq_3), (show 0 ≤ i_33.toInt ∧ i_33.toInt ≤ 33 from ⟨by omega, by omega⟩), (show 0 ≤ v_6.toInt ∧ v_6.toInt ≤ 160 from hbv_6), (show (-1) ≤ v_7.toInt ∧ v_7.toInt ≤ 160 from hbv_7), (show 0 ≤ v_8.toInt ∧ v_8.toInt ≤ 40 from hbv_8), (show 0 ≤ v_9.toInt ∧ v_9.toInt ≤ 8 from hbv_9), (show v_6.toInt ≤ q_3.toInt from by omega), (show (v_7 : Int32).toInt = v_7.toInt from by rfl), (show ((v_7 : Int32).toInt = -1 → ∀ k : Nat, k < i_33.toInt.toNat → zIt g_5 (4 * k)) from by exact hvi_33_1), (show q_3.toInt = si.toInt from by omega), (show (∀ j : Nat, (j : Int) < q_3.toInt → q_4 j = (fe j).toInt32) from by exact hsr_1_1), (show zEnd q_4 q_3.toInt te.toInt pu.toInt (i_33.toInt - 1).toNat v_7.toInt v_8.toInt v_9.toInt from by (rcases (show (v_10 : Int32).toInt = 0 ∨ (v_10 : Int32).toInt = 1 by omega) with h | h; exact (hvi_33_5 h).2; (exfalso; have z := zRgo_rg (by omega) ⟨by omega, by omega⟩ ⟨by omega, by omega⟩ _ _ _ _ (hvi_33_4 h); omega))), (show 1 ≤ i_33.toInt from by (rcases (show (v_10 : Int32).toInt = 0 ∨ (v_10 : Int32).toInt = 1 by omega) with h | h; exact (hvi_33_5 h).1; (exfalso; have z := zRgo_rg (by omega) ⟨by omega, by omega⟩ ⟨by omega, by omega⟩ _ _ _ _ (hvi_33_4 h); omega))), (show (v_7.toInt = -1 → v_9.toInt = pu.toInt + zCP g_5 i_33.toInt.toNat ∧ v_8.toInt = zLT g_5 te.toInt i_33.toInt.toNat) from by exact hvi_33_6), (show (v_7.toInt = -1 → ∀ k : Nat, k < i_33.toInt.toNat → zKI q_4 q_3.toInt te.toInt pu.toInt g_5 k) from by exact hvi_33_7), ⟨by omega, by omega⟩⟩, zRet ht hP hD [1, 2, 0, 3, 4] (by decide) rfl⟩, hS.F ht⟩) hS.2.2 dX3_read_126
      · have fc_14 : i_33.toInt < 33 := zf_nle c_14 (by decide) rfl
        refine lv_aload_n hx hb dX3_read_47 rfl (lv_at hl 1 rfl) ?_
        refine lv_aload_n hx hb dX3_read_48 rfl (lv_at hl 1 rfl) ?_
        refine va_get (D := D) (ci := 3) (v := .int i_33) (C := RX3) (T := TX3) (N := 8) hx hb hts hi_X3_read_3 hown hK hP 1 rfl rfl 3 (by decide) (hts (.fieldLink RX3 22 "TheLiningsInIt$Reader" "count" "I") (List.mem_of_getElem? (i := 5) rfl)) (fun _ h9 => h9) rfl dX3_read_49 ?_
        refine lv_iconst (v := 4) hx hb dX3_read_52 (by decide) ?_
        refine lv_imul hx hb dX3_read_53 ?_
        refine lv_topi (fun x_15 ex_15 => ?_)
        have qx_15 : x_15.toInt = i_33.toInt * 4 := by rw [ex_15]; exact zf_mul rfl (by decide) (by omega) (by omega)
        skip
        refine zw_Vv (As := [.int x_15]) (rest := []) (wr := [(h0, .inr (4, [.ref e0, .int he, .int si])), (e0, .inl (cJ, 160, .inr (.inl fe)))]) ⟨hx, hb, hml, hown, hts⟩ (c_F_R_readItem l D cI cJ cZ cP cS po rd ri rl (q_3) (i_33) (v_6) (v_7) (v_8) (v_9) q_4 g_5 (x_15) hbq_3.1 hbq_3.2 (by omega) (by omega) hbv_6.1 hbv_6.2 (by omega) hbv_7.1 hbv_7.2 hbv_8.1 hbv_8.2 hbv_9.1 hbv_9.2 (by omega) (by omega) (by omega) H.size) (cwV 1 hts gX3_read_X3_readItem rfl rfl rfl ⟨rfl, dh_X3_readItem⟩ ⟨Nat.le_of_ble_eq_true rfl, Nat.le_of_ble_eq_true rfl⟩) hK hN (hZ.kept hS) hP hD hS hA [1, 2, 0] [3, 4] rfl rfl (by decide) (by decide) (by decide) (va_recv (q := (RX3, TX3, 8)) hK hP (ci := 3) (q0 := 1) rfl rfl) rfl hl.1 rfl (Nat.le_of_ble_eq_true rfl) dX3_read_54 ⟨Nat.le_of_ble_eq_true rfl, Nat.le_of_ble_eq_true rfl⟩ (fun u_17 H locs hr_16 hP hD hS => ?_)
        obtain ⟨q_18, q_19, q_20, q_21, q_22⟩ := u_17
        try dsimp only at hr_16
        obtain ⟨hbq_18, hbq_19, hbq_20, hbq_21, hsr_16_0, hsr_16_1, hsr_16_2, hsr_16_3, hsr_16_4, hsr_16_5, hr_16⟩ := hr_16
        have h9R := zRe (ws' := [(h0, .inr (4, [.ref e0, .int he, .int si])), (e0, .inl (cJ, 160, .inr (.inl fe))), (rd, .inr (3, [.ref ri, .ref rl, .int q_3, .int i_33, .int q_18, .int q_19, .int q_20, .int q_21])), (rl, .inl (cI, 160, .inl q_4)), (ri, .inl (cI, 132, .inl q_22))]) hP hD rfl
        clear hP hD
        obtain ⟨hP, hD⟩ := h9R
        refine lv_aload_n hx hb dX3_read_57 rfl (lv_at hl 1 rfl) ?_
        refine va_get (D := D) (ci := 3) (v := .int q_19) (C := RX3) (T := TX3) (N := 8) hx hb hts hi_X3_read_3 hown hK hP 2 rfl rfl 5 (by decide) (hts (.fieldLink RX3 28 "TheLiningsInIt$Reader" "fault" "I") (List.mem_of_getElem? (i := 4) rfl)) (fun _ h9 => h9) rfl dX3_read_58 ?_
        refine lv_iconst (v := (-1)) hx hb dX3_read_61 (by decide) ?_
        refine lv_icmp_ne (tgt := 80) hx hb dX3_read_62 (by decide) (fun c_23 => ?_) (fun c_23 => ?_)
        · have fc_23 : q_19.toInt ≠ (-1) := zf_ne c_23 rfl (by decide)
          refine lv_iconst (v := 0) hx hb dX3_read_80 (by decide) ?_
          refine lv_istore (lv' := [(4, .int 0), (0, .ref rd), (1, .ref h0), (2, .int te), (3, .int pu)]) hx hb dX3_read_81 hl (by decide) rfl (fun ls hl => ?_)
          refine lv_iload hx hb dX3_read_83 (lv_at hl 0 rfl) ?_
          refine lv_if_eq (tgt := 109) hx hb dX3_read_85 (by decide) (fun c_24 => ?_) (fun c_24 => ?_)
          · refine lv_aload_n hx hb dX3_read_109 rfl (lv_at hl 1 rfl) ?_
            refine lv_dup hx hb dX3_read_110 rfl ?_
            refine va_get (D := D) (ci := 3) (v := .int i_33) (C := RX3) (T := TX3) (N := 8) hx hb hts hi_X3_read_3 hown hK hP 2 rfl rfl 3 (by decide) (hts (.fieldLink RX3 22 "TheLiningsInIt$Reader" "count" "I") (List.mem_of_getElem? (i := 5) rfl)) (fun _ h9 => h9) rfl dX3_read_111 ?_
            refine lv_iconst (v := 1) hx hb dX3_read_114 (by decide) ?_
            refine lv_iadd hx hb dX3_read_115 ?_
            refine lv_topi (fun x_25 ex_25 => ?_)
            have qx_25 : x_25.toInt = i_33.toInt + 1 := dw_incK ex_25 fc_14 (by decide)
            refine va_put (D := D) (ci := 3) (v := .int x_25) (ty := .int) (C := RX3) (T := TX3) (N := 8) hx hb hts hi_X3_read_3 tyX3 tyX3_ok nmX3 hown hK hP hD hS 2 rfl rfl 3 (by decide) (hts (.fieldLink RX3 22 "TheLiningsInIt$Reader" "count" "I") (List.mem_of_getElem? (i := 5) rfl)) (fun _ h9 => h9) rfl (tyX3_ok 3 (Nat.le_of_ble_eq_true rfl)) rfl rfl (Nat.le_of_ble_eq_true rfl) dX3_read_116 (fun H locs hP hD hS => ?_)
            have h9R := zRe (ws' := [(h0, .inr (4, [.ref e0, .int he, .int si])), (e0, .inl (cJ, 160, .inr (.inl fe))), (rd, .inr (3, [.ref ri, .ref rl, .int q_3, .int x_25, .int q_18, .int q_19, .int q_20, .int q_21])), (rl, .inl (cI, 160, .inl q_4)), (ri, .inl (cI, 132, .inl q_22))]) hP hD rfl
            clear hP hD
            obtain ⟨hP, hD⟩ := h9R
            refine lv_goto (tgt := 33) hx hb dX3_read_119 (by decide) ?_
            exact ih x_25 0 (q_21) (q_20) (q_19) (q_18) (q_22) _ _ _ (hP.sub [4, 2, 3, 0, 1] rfl) (hD.sub [4, 2, 3, 0, 1] (by decide) rfl) hS (lv_sub hl [0, 1, 2, 3, 4] rfl) hbq_18 hbq_19 hbq_20 hbq_21 ⟨by decide, by decide⟩ (show (q_18 : Int32).toInt ≤ (q_3 : Int32).toInt from by omega) (show ((q_19 : Int32).toInt = -1 → ∀ k : Nat, k < x_25.toInt.toNat → zIt q_22 (4 * k)) from by (intro hrf k hk; exact (Nat.lt_or_ge k i_33.toInt.toNat).elim (fun h => zIt_keep hsr_16_2 (by omega) (hvi_33_1 (hvi_33_3 (by omega)) k h)) (fun h => by (have e4 : x_15.toInt.toNat = 4 * k := (by omega); have z := hsr_16_1 (by omega); rw [e4] at z; exact z)))) (show x_25.toInt ≤ 33 from by omega) (show ((0 : Int32).toInt = 1 → (q_19 : Int32).toInt = -1) from by (intro h; first | omega | exact absurd h (by decide))) (show ((0 : Int32).toInt = 1 → zRgo q_4 (q_3 : Int32).toInt te.toInt pu.toInt x_25.toInt.toNat = some ((q_18 : Int32).toInt, (q_20 : Int32).toInt, (q_21 : Int32).toInt)) from by (intro h; exact absurd h (by decide))) (show ((0 : Int32).toInt = 0 → 1 ≤ x_25.toInt ∧ zEnd q_4 (q_3 : Int32).toInt te.toInt pu.toInt (x_25.toInt - 1).toNat (q_19 : Int32).toInt (q_20 : Int32).toInt (q_21 : Int32).toInt) from by (intro _; obtain ⟨z1, z2⟩ := hsr_16_3; refine ⟨by omega, ?_⟩; first | exact zEnd_a (hvi_33_4 (by omega)) (by omega) (by omega) (by omega) | (obtain ⟨z3, z4, z5⟩ := z2 (by omega); exact zEnd_b (hvi_33_4 (by omega)) (by omega) (by omega) (by omega) z4 z5 (by omega)) | (obtain ⟨z3, z4, z5⟩ := z2 (by omega); exact zEnd_c (hvi_33_4 (by omega)) (by omega) (by omega) (by rw [← z3]; omega) (by omega) (by omega)))) (show ((q_19 : Int32).toInt = -1 → (q_21 : Int32).toInt = pu.toInt + zCP q_22 x_25.toInt.toNat ∧ (q_20 : Int32).toInt = zLT q_22 te.toInt x_25.toInt.toNat) from by (intro hrf; obtain ⟨c1, c2⟩ := hvi_33_6 (hvi_33_3 (by omega)); have e4 : x_15.toInt.toNat = 4 * i_33.toInt.toNat := (by omega); have z := hsr_16_4 (by omega); have z2 := hsr_16_2; rw [e4] at z z2; exact ⟨zCP_S (i := i_33.toInt) (n := i_33.toInt.toNat) (by omega) (by omega) z2 c1 z.2.2.1 z.2.2.2, zLT_S (i := i_33.toInt) (n := i_33.toInt.toNat) (by omega) (by omega) z2 c2 z.1 z.2.1⟩)) (show ((q_19 : Int32).toInt = -1 → ∀ k : Nat, k < x_25.toInt.toNat → zKI q_4 (q_3 : Int32).toInt te.toInt pu.toInt q_22 k) from by (intro hrf k hk; exact (Nat.lt_or_ge k i_33.toInt.toNat).elim (fun h => zKI_keep (hvi_33_7 (hvi_33_3 (by omega)) k h) (fun j hj => hsr_16_2 j (by omega))) (fun h => by (have e4 : x_15.toInt.toNat = 4 * k := (by omega); obtain rfl : k = i_33.toInt.toNat := (by omega); have z0 := hvi_33_4 (by omega); have z1 := hsr_16_3.1; have z := hsr_16_5 (by omega); rw [e4] at z; exact ⟨_, _, _, z0, by omega, z⟩)))) (dw_lo hloi_33 qx_25) (dw_hn hni_33 qx_25)
          · exact absurd c_24 (by decide)
        · have fc_23 : q_19.toInt = (-1) := zf_eq c_23 rfl (by decide)
          refine lv_aload_n hx hb dX3_read_65 rfl (lv_at hl 1 rfl) ?_
          refine va_get (D := D) (ci := 3) (v := .int q_18) (C := RX3) (T := TX3) (N := 8) hx hb hts hi_X3_read_3 hown hK hP 2 rfl rfl 4 (by decide) (hts (.fieldLink RX3 25 "TheLiningsInIt$Reader" "place" "I") (List.mem_of_getElem? (i := 3) rfl)) (fun _ h9 => h9) rfl dX3_read_66 ?_
          refine lv_aload_n hx hb dX3_read_69 rfl (lv_at hl 1 rfl) ?_
          refine va_get (D := D) (ci := 3) (v := .int q_3) (C := RX3) (T := TX3) (N := 8) hx hb hts hi_X3_read_3 hown hK hP 2 rfl rfl 2 (by decide) (hts (.fieldLink RX3 18 "TheLiningsInIt$Reader" "size" "I") (List.mem_of_getElem? (i := 6) rfl)) (fun _ h9 => h9) rfl dX3_read_70 ?_
          refine lv_icmp_ge (tgt := 80) hx hb dX3_read_73 (by decide) (fun c_26 => ?_) (fun c_26 => ?_)
          · have fc_26 : q_3.toInt ≤ q_18.toInt := zf_le c_26 rfl rfl
            refine lv_iconst (v := 0) hx hb dX3_read_80 (by decide) ?_
            refine lv_istore (lv' := [(4, .int 0), (0, .ref rd), (1, .ref h0), (2, .int te), (3, .int pu)]) hx hb dX3_read_81 hl (by decide) rfl (fun ls hl => ?_)
            refine lv_iload hx hb dX3_read_83 (lv_at hl 0 rfl) ?_
            refine lv_if_eq (tgt := 109) hx hb dX3_read_85 (by decide) (fun c_27 => ?_) (fun c_27 => ?_)
            · refine lv_aload_n hx hb dX3_read_109 rfl (lv_at hl 1 rfl) ?_
              refine lv_dup hx hb dX3_read_110 rfl ?_
              refine va_get (D := D) (ci := 3) (v := .int i_33) (C := RX3) (T := TX3) (N := 8) hx hb hts hi_X3_read_3 hown hK hP 2 rfl rfl 3 (by decide) (hts (.fieldLink RX3 22 "TheLiningsInIt$Reader" "count" "I") (List.mem_of_getElem? (i := 5) rfl)) (fun _ h9 => h9) rfl dX3_read_111 ?_
              refine lv_iconst (v := 1) hx hb dX3_read_114 (by decide) ?_
              refine lv_iadd hx hb dX3_read_115 ?_
              refine lv_topi (fun x_28 ex_28 => ?_)
              have qx_28 : x_28.toInt = i_33.toInt + 1 := dw_incK ex_28 fc_14 (by decide)
              refine va_put (D := D) (ci := 3) (v := .int x_28) (ty := .int) (C := RX3) (T := TX3) (N := 8) hx hb hts hi_X3_read_3 tyX3 tyX3_ok nmX3 hown hK hP hD hS 2 rfl rfl 3 (by decide) (hts (.fieldLink RX3 22 "TheLiningsInIt$Reader" "count" "I") (List.mem_of_getElem? (i := 5) rfl)) (fun _ h9 => h9) rfl (tyX3_ok 3 (Nat.le_of_ble_eq_true rfl)) rfl rfl (Nat.le_of_ble_eq_true rfl) dX3_read_116 (fun H locs hP hD hS => ?_)
              have h9R := zRe (ws' := [(h0, .inr (4, [.ref e0, .int he, .int si])), (e0, .inl (cJ, 160, .inr (.inl fe))), (rd, .inr (3, [.ref ri, .ref rl, .int q_3, .int x_28, .int q_18, .int q_19, .int q_20, .int q_21])), (rl, .inl (cI, 160, .inl q_4)), (ri, .inl (cI, 132, .inl q_22))]) hP hD rfl
              clear hP hD
              obtain ⟨hP, hD⟩ := h9R
              refine lv_goto (tgt := 33) hx hb dX3_read_119 (by decide) ?_
              exact ih x_28 0 (q_21) (q_20) (q_19) (q_18) (q_22) _ _ _ (hP.sub [4, 2, 3, 0, 1] rfl) (hD.sub [4, 2, 3, 0, 1] (by decide) rfl) hS (lv_sub hl [0, 1, 2, 3, 4] rfl) hbq_18 hbq_19 hbq_20 hbq_21 ⟨by decide, by decide⟩ (show (q_18 : Int32).toInt ≤ (q_3 : Int32).toInt from by omega) (show ((q_19 : Int32).toInt = -1 → ∀ k : Nat, k < x_28.toInt.toNat → zIt q_22 (4 * k)) from by (intro hrf k hk; exact (Nat.lt_or_ge k i_33.toInt.toNat).elim (fun h => zIt_keep hsr_16_2 (by omega) (hvi_33_1 (hvi_33_3 (by omega)) k h)) (fun h => by (have e4 : x_15.toInt.toNat = 4 * k := (by omega); have z := hsr_16_1 (by omega); rw [e4] at z; exact z)))) (show x_28.toInt ≤ 33 from by omega) (show ((0 : Int32).toInt = 1 → (q_19 : Int32).toInt = -1) from by (intro h; first | omega | exact absurd h (by decide))) (show ((0 : Int32).toInt = 1 → zRgo q_4 (q_3 : Int32).toInt te.toInt pu.toInt x_28.toInt.toNat = some ((q_18 : Int32).toInt, (q_20 : Int32).toInt, (q_21 : Int32).toInt)) from by (intro h; exact absurd h (by decide))) (show ((0 : Int32).toInt = 0 → 1 ≤ x_28.toInt ∧ zEnd q_4 (q_3 : Int32).toInt te.toInt pu.toInt (x_28.toInt - 1).toNat (q_19 : Int32).toInt (q_20 : Int32).toInt (q_21 : Int32).toInt) from by (intro _; obtain ⟨z1, z2⟩ := hsr_16_3; refine ⟨by omega, ?_⟩; first | exact zEnd_a (hvi_33_4 (by omega)) (by omega) (by omega) (by omega) | (obtain ⟨z3, z4, z5⟩ := z2 (by omega); exact zEnd_b (hvi_33_4 (by omega)) (by omega) (by omega) (by omega) z4 z5 (by omega)) | (obtain ⟨z3, z4, z5⟩ := z2 (by omega); exact zEnd_c (hvi_33_4 (by omega)) (by omega) (by omega) (by rw [← z3]; omega) (by omega) (by omega)))) (show ((q_19 : Int32).toInt = -1 → (q_21 : Int32).toInt = pu.toInt + zCP q_22 x_28.toInt.toNat ∧ (q_20 : Int32).toInt = zLT q_22 te.toInt x_28.toInt.toNat) from by (intro hrf; obtain ⟨c1, c2⟩ := hvi_33_6 (hvi_33_3 (by omega)); have e4 : x_15.toInt.toNat = 4 * i_33.toInt.toNat := (by omega); have z := hsr_16_4 (by omega); have z2 := hsr_16_2; rw [e4] at z z2; exact ⟨zCP_S (i := i_33.toInt) (n := i_33.toInt.toNat) (by omega) (by omega) z2 c1 z.2.2.1 z.2.2.2, zLT_S (i := i_33.toInt) (n := i_33.toInt.toNat) (by omega) (by omega) z2 c2 z.1 z.2.1⟩)) (show ((q_19 : Int32).toInt = -1 → ∀ k : Nat, k < x_28.toInt.toNat → zKI q_4 (q_3 : Int32).toInt te.toInt pu.toInt q_22 k) from by (intro hrf k hk; exact (Nat.lt_or_ge k i_33.toInt.toNat).elim (fun h => zKI_keep (hvi_33_7 (hvi_33_3 (by omega)) k h) (fun j hj => hsr_16_2 j (by omega))) (fun h => by (have e4 : x_15.toInt.toNat = 4 * k := (by omega); obtain rfl : k = i_33.toInt.toNat := (by omega); have z0 := hvi_33_4 (by omega); have z1 := hsr_16_3.1; have z := hsr_16_5 (by omega); rw [e4] at z; exact ⟨_, _, _, z0, by omega, z⟩)))) (dw_lo hloi_33 qx_28) (dw_hn hni_33 qx_28)
            · exact absurd c_27 (by decide)
          · have fc_26 : q_18.toInt < q_3.toInt := zf_nle c_26 rfl rfl
            refine lv_iconst (v := 1) hx hb dX3_read_76 (by decide) ?_
            refine lv_goto (tgt := 81) hx hb dX3_read_77 (by decide) ?_
            refine lv_istore (lv' := [(4, .int 1), (0, .ref rd), (1, .ref h0), (2, .int te), (3, .int pu)]) hx hb dX3_read_81 hl (by decide) rfl (fun ls hl => ?_)
            refine lv_iload hx hb dX3_read_83 (lv_at hl 0 rfl) ?_
            refine lv_if_eq (tgt := 109) hx hb dX3_read_85 (by decide) (fun c_29 => ?_) (fun c_29 => ?_)
            · exact absurd c_29 (by decide)
            · refine lv_aload_n hx hb dX3_read_88 rfl (lv_at hl 1 rfl) ?_
              refine lv_bipush (v := 59) hx hb dX3_read_89 (by decide) ?_
              have kc59 : (59 : Int32).toInt = 59 := by decide
              skip
              refine zw_Vv (As := [.int 59]) (rest := []) (wr := [(h0, .inr (4, [.ref e0, .int he, .int si])), (e0, .inl (cJ, 160, .inr (.inl fe))), (ri, .inl (cI, 132, .inl q_22))]) ⟨hx, hb, hml, hown, hts⟩ (c_F_R_expect l D cI cJ cZ cP cS po rd ri rl (q_3) (i_33) (q_18) (q_19) (q_20) (q_21) q_4 (59) hbq_3.1 hbq_3.2 (by omega) (by omega) hbq_18.1 hbq_18.2 (by omega) hbq_19.1 hbq_19.2 hbq_20.1 hbq_20.2 hbq_21.1 hbq_21.2 H.size) (cwV 1 hts gX3_read_X3_expect rfl rfl rfl ⟨rfl, dh_X3_expect⟩ ⟨Nat.le_of_ble_eq_true rfl, Nat.le_of_ble_eq_true rfl⟩) hK hN (hZ.kept hS) hP hD hS hA [2, 3] [0, 1, 4] rfl rfl (by decide) (by decide) (by decide) (va_recv (q := (RX3, TX3, 8)) hK hP (ci := 3) (q0 := 2) rfl rfl) rfl hl.1 rfl (Nat.le_of_ble_eq_true rfl) dX3_read_91 ⟨Nat.le_of_ble_eq_true rfl, Nat.le_of_ble_eq_true rfl⟩ (fun u_31 H locs hr_30 hP hD hS => ?_)
              obtain ⟨q_32, q_33⟩ := u_31
              try dsimp only at hr_30
              obtain ⟨hbq_32, hbq_33, hsr_30_0, hsr_30_1, hr_30⟩ := hr_30
              have h9R := zRe (ws' := [(h0, .inr (4, [.ref e0, .int he, .int si])), (e0, .inl (cJ, 160, .inr (.inl fe))), (ri, .inl (cI, 132, .inl q_22)), (rd, .inr (3, [.ref ri, .ref rl, .int q_3, .int i_33, .int q_32, .int q_33, .int q_20, .int q_21])), (rl, .inl (cI, 160, .inl q_4))]) hP hD rfl
              clear hP hD
              obtain ⟨hP, hD⟩ := h9R
              refine lv_aload_n hx hb dX3_read_94 rfl (lv_at hl 1 rfl) ?_
              refine va_get (D := D) (ci := 3) (v := .int q_33) (C := RX3) (T := TX3) (N := 8) hx hb hts hi_X3_read_3 hown hK hP 3 rfl rfl 5 (by decide) (hts (.fieldLink RX3 28 "TheLiningsInIt$Reader" "fault" "I") (List.mem_of_getElem? (i := 4) rfl)) (fun _ h9 => h9) rfl dX3_read_95 ?_
              refine lv_iconst (v := (-1)) hx hb dX3_read_98 (by decide) ?_
              refine lv_icmp_ne (tgt := 106) hx hb dX3_read_99 (by decide) (fun c_34 => ?_) (fun c_34 => ?_)
              · have fc_34 : q_33.toInt ≠ (-1) := zf_ne c_34 rfl (by decide)
                refine lv_iconst (v := 0) hx hb dX3_read_106 (by decide) ?_
                refine lv_istore (lv' := [(4, .int 0), (0, .ref rd), (1, .ref h0), (2, .int te), (3, .int pu)]) hx hb dX3_read_107 hl (by decide) rfl (fun ls hl => ?_)
                refine lv_aload_n hx hb dX3_read_109 rfl (lv_at hl 1 rfl) ?_
                refine lv_dup hx hb dX3_read_110 rfl ?_
                refine va_get (D := D) (ci := 3) (v := .int i_33) (C := RX3) (T := TX3) (N := 8) hx hb hts hi_X3_read_3 hown hK hP 3 rfl rfl 3 (by decide) (hts (.fieldLink RX3 22 "TheLiningsInIt$Reader" "count" "I") (List.mem_of_getElem? (i := 5) rfl)) (fun _ h9 => h9) rfl dX3_read_111 ?_
                refine lv_iconst (v := 1) hx hb dX3_read_114 (by decide) ?_
                refine lv_iadd hx hb dX3_read_115 ?_
                refine lv_topi (fun x_35 ex_35 => ?_)
                have qx_35 : x_35.toInt = i_33.toInt + 1 := dw_incK ex_35 fc_14 (by decide)
                refine va_put (D := D) (ci := 3) (v := .int x_35) (ty := .int) (C := RX3) (T := TX3) (N := 8) hx hb hts hi_X3_read_3 tyX3 tyX3_ok nmX3 hown hK hP hD hS 3 rfl rfl 3 (by decide) (hts (.fieldLink RX3 22 "TheLiningsInIt$Reader" "count" "I") (List.mem_of_getElem? (i := 5) rfl)) (fun _ h9 => h9) rfl (tyX3_ok 3 (Nat.le_of_ble_eq_true rfl)) rfl rfl (Nat.le_of_ble_eq_true rfl) dX3_read_116 (fun H locs hP hD hS => ?_)
                have h9R := zRe (ws' := [(h0, .inr (4, [.ref e0, .int he, .int si])), (e0, .inl (cJ, 160, .inr (.inl fe))), (ri, .inl (cI, 132, .inl q_22)), (rd, .inr (3, [.ref ri, .ref rl, .int q_3, .int x_35, .int q_32, .int q_33, .int q_20, .int q_21])), (rl, .inl (cI, 160, .inl q_4))]) hP hD rfl
                clear hP hD
                obtain ⟨hP, hD⟩ := h9R
                refine lv_goto (tgt := 33) hx hb dX3_read_119 (by decide) ?_
                exact ih x_35 0 (q_21) (q_20) (q_33) (q_32) (q_22) _ _ _ (hP.sub [2, 3, 4, 0, 1] rfl) (hD.sub [2, 3, 4, 0, 1] (by decide) rfl) hS (lv_sub hl [0, 1, 2, 3, 4] rfl) hbq_32 hbq_33 hbq_20 hbq_21 ⟨by decide, by decide⟩ (show (q_32 : Int32).toInt ≤ (q_3 : Int32).toInt from by omega) (show ((q_33 : Int32).toInt = -1 → ∀ k : Nat, k < x_35.toInt.toNat → zIt q_22 (4 * k)) from by (intro hrf k hk; exact (Nat.lt_or_ge k i_33.toInt.toNat).elim (fun h => zIt_keep hsr_16_2 (by omega) (hvi_33_1 (hvi_33_3 (by omega)) k h)) (fun h => by (have e4 : x_15.toInt.toNat = 4 * k := (by omega); have z := hsr_16_1 (by omega); rw [e4] at z; exact z)))) (show x_35.toInt ≤ 33 from by omega) (show ((0 : Int32).toInt = 1 → (q_33 : Int32).toInt = -1) from by (intro h; first | omega | exact absurd h (by decide))) (show ((0 : Int32).toInt = 1 → zRgo q_4 (q_3 : Int32).toInt te.toInt pu.toInt x_35.toInt.toNat = some ((q_32 : Int32).toInt, (q_20 : Int32).toInt, (q_21 : Int32).toInt)) from by (intro h; exact absurd h (by decide))) (show ((0 : Int32).toInt = 0 → 1 ≤ x_35.toInt ∧ zEnd q_4 (q_3 : Int32).toInt te.toInt pu.toInt (x_35.toInt - 1).toNat (q_33 : Int32).toInt (q_20 : Int32).toInt (q_21 : Int32).toInt) from by (intro _; obtain ⟨z1, z2⟩ := hsr_16_3; refine ⟨by omega, ?_⟩; first | exact zEnd_a (hvi_33_4 (by omega)) (by omega) (by omega) (by omega) | (obtain ⟨z3, z4, z5⟩ := z2 (by omega); exact zEnd_b (hvi_33_4 (by omega)) (by omega) (by omega) (by omega) z4 z5 (by omega)) | (obtain ⟨z3, z4, z5⟩ := z2 (by omega); exact zEnd_c (hvi_33_4 (by omega)) (by omega) (by omega) (by rw [← z3]; omega) (by omega) (by omega)))) (show ((q_33 : Int32).toInt = -1 → (q_21 : Int32).toInt = pu.toInt + zCP q_22 x_35.toInt.toNat ∧ (q_20 : Int32).toInt = zLT q_22 te.toInt x_35.toInt.toNat) from by (intro hrf; obtain ⟨c1, c2⟩ := hvi_33_6 (hvi_33_3 (by omega)); have e4 : x_15.toInt.toNat = 4 * i_33.toInt.toNat := (by omega); have z := hsr_16_4 (by omega); have z2 := hsr_16_2; rw [e4] at z z2; exact ⟨zCP_S (i := i_33.toInt) (n := i_33.toInt.toNat) (by omega) (by omega) z2 c1 z.2.2.1 z.2.2.2, zLT_S (i := i_33.toInt) (n := i_33.toInt.toNat) (by omega) (by omega) z2 c2 z.1 z.2.1⟩)) (show ((q_33 : Int32).toInt = -1 → ∀ k : Nat, k < x_35.toInt.toNat → zKI q_4 (q_3 : Int32).toInt te.toInt pu.toInt q_22 k) from by (intro hrf k hk; exact (Nat.lt_or_ge k i_33.toInt.toNat).elim (fun h => zKI_keep (hvi_33_7 (hvi_33_3 (by omega)) k h) (fun j hj => hsr_16_2 j (by omega))) (fun h => by (have e4 : x_15.toInt.toNat = 4 * k := (by omega); obtain rfl : k = i_33.toInt.toNat := (by omega); have z0 := hvi_33_4 (by omega); have z1 := hsr_16_3.1; have z := hsr_16_5 (by omega); rw [e4] at z; exact ⟨_, _, _, z0, by omega, z⟩)))) (dw_lo hloi_33 qx_35) (dw_hn hni_33 qx_35)
              · have fc_34 : q_33.toInt = (-1) := zf_eq c_34 rfl (by decide)
                refine lv_iconst (v := 1) hx hb dX3_read_102 (by decide) ?_
                refine lv_goto (tgt := 107) hx hb dX3_read_103 (by decide) ?_
                refine lv_istore (lv' := [(4, .int 1), (0, .ref rd), (1, .ref h0), (2, .int te), (3, .int pu)]) hx hb dX3_read_107 hl (by decide) rfl (fun ls hl => ?_)
                refine lv_aload_n hx hb dX3_read_109 rfl (lv_at hl 1 rfl) ?_
                refine lv_dup hx hb dX3_read_110 rfl ?_
                refine va_get (D := D) (ci := 3) (v := .int i_33) (C := RX3) (T := TX3) (N := 8) hx hb hts hi_X3_read_3 hown hK hP 3 rfl rfl 3 (by decide) (hts (.fieldLink RX3 22 "TheLiningsInIt$Reader" "count" "I") (List.mem_of_getElem? (i := 5) rfl)) (fun _ h9 => h9) rfl dX3_read_111 ?_
                refine lv_iconst (v := 1) hx hb dX3_read_114 (by decide) ?_
                refine lv_iadd hx hb dX3_read_115 ?_
                refine lv_topi (fun x_36 ex_36 => ?_)
                have qx_36 : x_36.toInt = i_33.toInt + 1 := dw_incK ex_36 fc_14 (by decide)
                refine va_put (D := D) (ci := 3) (v := .int x_36) (ty := .int) (C := RX3) (T := TX3) (N := 8) hx hb hts hi_X3_read_3 tyX3 tyX3_ok nmX3 hown hK hP hD hS 3 rfl rfl 3 (by decide) (hts (.fieldLink RX3 22 "TheLiningsInIt$Reader" "count" "I") (List.mem_of_getElem? (i := 5) rfl)) (fun _ h9 => h9) rfl (tyX3_ok 3 (Nat.le_of_ble_eq_true rfl)) rfl rfl (Nat.le_of_ble_eq_true rfl) dX3_read_116 (fun H locs hP hD hS => ?_)
                have h9R := zRe (ws' := [(h0, .inr (4, [.ref e0, .int he, .int si])), (e0, .inl (cJ, 160, .inr (.inl fe))), (ri, .inl (cI, 132, .inl q_22)), (rd, .inr (3, [.ref ri, .ref rl, .int q_3, .int x_36, .int q_32, .int q_33, .int q_20, .int q_21])), (rl, .inl (cI, 160, .inl q_4))]) hP hD rfl
                clear hP hD
                obtain ⟨hP, hD⟩ := h9R
                refine lv_goto (tgt := 33) hx hb dX3_read_119 (by decide) ?_
                exact ih x_36 1 (q_21) (q_20) (q_33) (q_32) (q_22) _ _ _ (hP.sub [2, 3, 4, 0, 1] rfl) (hD.sub [2, 3, 4, 0, 1] (by decide) rfl) hS (lv_sub hl [0, 1, 2, 3, 4] rfl) hbq_32 hbq_33 hbq_20 hbq_21 ⟨by decide, by decide⟩ (show (q_32 : Int32).toInt ≤ (q_3 : Int32).toInt from by omega) (show ((q_33 : Int32).toInt = -1 → ∀ k : Nat, k < x_36.toInt.toNat → zIt q_22 (4 * k)) from by (intro hrf k hk; exact (Nat.lt_or_ge k i_33.toInt.toNat).elim (fun h => zIt_keep hsr_16_2 (by omega) (hvi_33_1 (hvi_33_3 (by omega)) k h)) (fun h => by (have e4 : x_15.toInt.toNat = 4 * k := (by omega); have z := hsr_16_1 (by omega); rw [e4] at z; exact z)))) (show x_36.toInt ≤ 33 from by omega) (show ((1 : Int32).toInt = 1 → (q_33 : Int32).toInt = -1) from by (intro h; first | omega | exact absurd h (by decide))) (show ((1 : Int32).toInt = 1 → zRgo q_4 (q_3 : Int32).toInt te.toInt pu.toInt x_36.toInt.toNat = some ((q_32 : Int32).toInt, (q_20 : Int32).toInt, (q_21 : Int32).toInt)) from by (intro _; obtain ⟨z1, z2⟩ := hsr_16_3; obtain ⟨z3, z4, z5⟩ := z2 (by omega); exact zRgo_S (hvi_33_4 (by omega)) (by omega) (by omega) (by rw [← z3]; omega) (by omega) z4 z5 (by omega))) (show ((1 : Int32).toInt = 0 → 1 ≤ x_36.toInt ∧ zEnd q_4 (q_3 : Int32).toInt te.toInt pu.toInt (x_36.toInt - 1).toNat (q_33 : Int32).toInt (q_20 : Int32).toInt (q_21 : Int32).toInt) from by (intro h; exact absurd h (by decide))) (show ((q_33 : Int32).toInt = -1 → (q_21 : Int32).toInt = pu.toInt + zCP q_22 x_36.toInt.toNat ∧ (q_20 : Int32).toInt = zLT q_22 te.toInt x_36.toInt.toNat) from by (intro hrf; obtain ⟨c1, c2⟩ := hvi_33_6 (hvi_33_3 (by omega)); have e4 : x_15.toInt.toNat = 4 * i_33.toInt.toNat := (by omega); have z := hsr_16_4 (by omega); have z2 := hsr_16_2; rw [e4] at z z2; exact ⟨zCP_S (i := i_33.toInt) (n := i_33.toInt.toNat) (by omega) (by omega) z2 c1 z.2.2.1 z.2.2.2, zLT_S (i := i_33.toInt) (n := i_33.toInt.toNat) (by omega) (by omega) z2 c2 z.1 z.2.1⟩)) (show ((q_33 : Int32).toInt = -1 → ∀ k : Nat, k < x_36.toInt.toNat → zKI q_4 (q_3 : Int32).toInt te.toInt pu.toInt q_22 k) from by (intro hrf k hk; exact (Nat.lt_or_ge k i_33.toInt.toNat).elim (fun h => zKI_keep (hvi_33_7 (hvi_33_3 (by omega)) k h) (fun j hj => hsr_16_2 j (by omega))) (fun h => by (have e4 : x_15.toInt.toNat = 4 * k := (by omega); obtain rfl : k = i_33.toInt.toNat := (by omega); have z0 := hvi_33_4 (by omega); have z1 := hsr_16_3.1; have z := hsr_16_5 (by omega); rw [e4] at z; exact ⟨_, _, _, z0, by omega, z⟩)))) (dw_lo hloi_33 qx_36) (dw_hn hni_33 qx_36)
end
section
set_option maxHeartbeats 4000000 in
set_option maxRecDepth 100000 in
theorem c_F_J_addPull (l : Launch) (D : va_G) (cI cJ cZ cP cS : ClassId) (po : zPool) (j0 jp jc z0 zl zs : Nat) (cn de tr se hu sd : Int32) (fp : Nat → Option Nat) (kf af tf : Nat → Int32) (ki a_ ta : Int32) (hy0 : 0 ≤ cn.toInt) (hy1 : cn.toInt ≤ 8) (hy2 : 0 ≤ de.toInt) (hy3 : de.toInt ≤ 24) (hy4 : 0 ≤ hu.toInt) (hy5 : hu.toInt ≤ 9) (hy6 : 0 ≤ ki.toInt) (hy7 : ki.toInt ≤ 6) (hy8 : 0 ≤ a_.toInt) (hy9 : a_.toInt ≤ 9) (hy10 : 1 ≤ ta.toInt) (hy11 : ta.toInt ≤ 60) (hpz : Nat) : Met l yX0_addPull wsX0_addPull ({ frames := 2, cells := 1, slots := 3, locals := 35 }) (va_Pc [.ref j0, .int ki, .int a_, .int ta] (zW D (zKT cI cJ cZ cP cS) po [(j0, .inr (0, [.ref z0, .ref jp, .ref jc, .int cn, .int de, .int tr, .int se, .int hu, .int sd])), (jp, .inl (cP, 8, .inr (.inr (.inr (.inr fp)))))] hpz)) (va_Qi (fun (r : Int32) (u : (Int32) × (Nat → Option Nat) × (Nat → Int32) × (Nat → Int32) × (Nat → Int32) × (List (Nat × Int32 × Int32 × Int32))) => (0 ≤ u.1.toInt ∧ u.1.toInt ≤ 8) ∧ (∀ z ∈ u.2.2.2.2.2, zPr z.2.1 z.2.2.1 z.2.2.2) ∧ (zExt u.2.2.2.2.2 fp cn kf af tf u.2.1 u.1 u.2.2.1 u.2.2.2.1 u.2.2.2.2.1) ∧ ((cn.toInt < 8 → u.1.toInt = cn.toInt + 1 ∧ r.toInt = cn.toInt)) ∧ ((cn.toInt < 8 → u.2.2.1 = upd kf cn.toNatClampNeg ki ∧ u.2.2.2.1 = upd af cn.toNatClampNeg a_ ∧ u.2.2.2.2.1 = upd tf cn.toNatClampNeg ta)) ∧ (True)) (zB D [(j0, .inr (0, [.ref z0, .ref jp, .ref jc, .int cn, .int de, .int tr, .int se, .int hu, .int sd])), (jp, .inl (cP, 8, .inr (.inr (.inr (.inr fp)))))] hpz (fun (u : (Int32) × (Nat → Option Nat) × (Nat → Int32) × (Nat → Int32) × (Nat → Int32) × (List (Nat × Int32 × Int32 × Int32))) => ([(j0, .inr (0, [.ref z0, .ref jp, .ref jc, .int u.1, .int de, .int tr, .int se, .int hu, .int sd])), (jp, .inl (cP, 8, .inr (.inr (.inr (.inr u.2.1)))))] ++ u.2.2.2.2.2.map zPo))) (va_A [(j0, .inr (0, [.ref z0, .ref jp, .ref jc, .int cn, .int de, .int tr, .int se, .int hu, .int sd])), (jp, .inl (cP, 8, .inr (.inr (.inr (.inr fp)))))] hpz)) 1 3 (va_A [(j0, .inr (0, [.ref z0, .ref jp, .ref jc, .int cn, .int de, .int tr, .int se, .int hu, .int sd])), (jp, .inl (cP, 8, .inr (.inr (.inr (.inr fp)))))] hpz) := by
  refine Met.ofW (cc := cX0_addPull) (maxL := 4) (ret := (some .int)) (by decide) rfl ?_
  intro p e s m args below meth c s₁ B hml hv
  obtain ⟨rfl, hsz, hP, hK, hD0, hN, hZ⟩ := hv
  have hx := B.exec
  have hb := B.bytes
  have hr := B.returns
  have hts := atoms_spec (ws := wsX0_addPull) B.pre
  have hown : s.vm.findClass RX0 = some m.cls := findClass_of_methodNamed B.named
  have hlocks := B.notSynchronized
  subst hsz
  have hD := hD0.self (sz := s.heap.size)
  have hA := zA_of hD
  have hl := lv_entry ([.ref j0, .int ki, .int a_, .int ta]) (n := 4) (Nat.le_of_ble_eq_true rfl)
  rw [lg_entry_eq]
  generalize (lg_sl ([.ref j0, .int ki, .int a_, .int ta]) ++ List.replicate (4 - (lg_sl ([.ref j0, .int ki, .int a_, .int ta])).length) Slot.unset).toArray = ls at hl ⊢
  replace hl : lv_has ls 4 [(0, .ref j0), (1, .int ki), (2, .int a_), (3, .int ta)] := hl
  refine zw_begin hP hD (fun H locs hP1 hS => ?_)
  clear hP
  have hP := hP1
  clear hP1
  refine lv_aload_n hx hb dX0_addPull_0 rfl (lv_at hl 0 rfl) ?_
  refine va_get (D := D) (ci := 0) (v := .int cn) (C := RX0) (T := TX0) (N := 9) hx hb hts hi_X0_addPull_0 hown hK hP 0 rfl rfl 3 (by decide) (hts (.fieldLink RX0 28 "TheLiningsInIt$Jacket" "pullCount" "I") (List.mem_of_getElem? (i := 1) rfl)) (fun _ h9 => h9) rfl dX0_addPull_1 ?_
  refine lv_bipush (v := 8) hx hb dX0_addPull_4 (by decide) ?_
  refine lv_icmp_lt (tgt := 11) hx hb dX0_addPull_6 (by decide) (fun c_1 => ?_) (fun c_1 => ?_)
  · have fc_1 : cn.toInt < 8 := zf_lt c_1 rfl (by decide)
    refine lv_aload_n hx hb dX0_addPull_11 rfl (lv_at hl 0 rfl) ?_
    refine va_get (D := D) (ci := 0) (v := .ref jp) (C := RX0) (T := TX0) (N := 9) hx hb hts hi_X0_addPull_0 hown hK hP 0 rfl rfl 1 (by decide) (hts (.fieldLink RX0 20 "TheLiningsInIt$Jacket" "pulls" "[LTheLiningsInIt$Pull;") (List.mem_of_getElem? (i := 2) rfl)) (fun _ h9 => h9) rfl dX0_addPull_12 ?_
    refine lv_aload_n hx hb dX0_addPull_15 rfl (lv_at hl 0 rfl) ?_
    refine va_get (D := D) (ci := 0) (v := .int cn) (C := RX0) (T := TX0) (N := 9) hx hb hts hi_X0_addPull_0 hown hK hP 0 rfl rfl 3 (by decide) (hts (.fieldLink RX0 28 "TheLiningsInIt$Jacket" "pullCount" "I") (List.mem_of_getElem? (i := 1) rfl)) (fun _ h9 => h9) rfl dX0_addPull_16 ?_
    refine va_new (ci := 2) (fs := [.int 0, .int 0, .int 0]) (C := RX2) (T := TX2) (N := 3) hx hb hts hi_X0_addPull_2 tyX2 tyX2_ok hown (hts (.classLink RX0 18 RX2) (List.mem_of_getElem? (i := 3) rfl)) (hts _ (List.mem_of_getElem? (i := 4) rfl)) (hts _ (List.mem_of_getElem? (i := 5) rfl)) hK hP hD hS hA rfl (fun j hj => by rcases (show j = 0 ∨ j = 1 ∨ j = 2 by omega) with rfl | rfl | rfl <;> rfl) (Nat.le_of_ble_eq_true rfl) (Nat.le_of_ble_eq_true rfl) dX0_addPull_19 (fun q_2 H hP hD hS => ?_)
    have h9R := zRe (ws' := [(j0, .inr (0, [.ref z0, .ref jp, .ref jc, .int cn, .int de, .int tr, .int se, .int hu, .int sd])), (jp, .inl (cP, 8, .inr (.inr (.inr (.inr fp))))), (q_2, .inr (2, [.int 0, .int 0, .int 0]))]) hP hD rfl
    clear hP hD
    obtain ⟨hP, hD⟩ := h9R
    refine W.widen (k := 1) (n := 3) (Nat.le_of_ble_eq_true rfl) (Nat.le_of_ble_eq_true rfl) ?_
    refine lv_dup hx hb dX0_addPull_22 rfl ?_
    refine lv_iload_n hx hb dX0_addPull_23 rfl (lv_at hl 1 rfl) ?_
    refine lv_iload_n hx hb dX0_addPull_24 rfl (lv_at hl 2 rfl) ?_
    refine lv_iload_n hx hb dX0_addPull_25 rfl (lv_at hl 3 rfl) ?_
    skip
    refine zw_I (As := [.int ki, .int a_, .int ta]) (rest := [.ref q_2, .int cn, .ref jp]) (wr := [(j0, .inr (0, [.ref z0, .ref jp, .ref jc, .int cn, .int de, .int tr, .int se, .int hu, .int sd])), (jp, .inl (cP, 8, .inr (.inr (.inr (.inr fp)))))]) ⟨hx, hb, hml, hown, hts⟩ (c_Pull_init l D cI cJ cZ cP cS po q_2 (ki) (a_) (ta)  H.size) (cwI 3 hts gX0_addPull_X2_init rfl rfl rfl (hts _ (List.mem_of_getElem? (i := 5) rfl)) (hts (.methodLink RX0 70 yX2_init) (List.mem_of_getElem? (i := 6) rfl)) (hts _ (List.mem_of_getElem? (i := 7) rfl)) rfl dh_X2_init ⟨Nat.le_of_ble_eq_true rfl, Nat.le_of_ble_eq_true rfl⟩) hK hN (hZ.kept hS) hP hD hS hA [2] [0, 1] rfl rfl (by decide) (by decide) (by decide) rfl hl.1 rfl (Nat.le_of_ble_eq_true rfl) dX0_addPull_26 ⟨Nat.le_of_ble_eq_true rfl, Nat.le_of_ble_eq_true rfl⟩ (fun u_4 H locs hr_3 hP hD hS => ?_)
    have h9R := zRe (ws' := [(j0, .inr (0, [.ref z0, .ref jp, .ref jc, .int cn, .int de, .int tr, .int se, .int hu, .int sd])), (jp, .inl (cP, 8, .inr (.inr (.inr (.inr fp))))), (q_2, .inr (2, [.int ki, .int a_, .int ta]))]) hP hD rfl
    clear hP hD
    obtain ⟨hP, hD⟩ := h9R
    refine va_astq hx hb hK hP hD hS 1 3 2 2 rfl rfl rfl rfl (zf_in (by omega) (by omega)) dX0_addPull_29 (fun H locs hP hD hS => ?_)
    have h9R := zRe (ws' := [(j0, .inr (0, [.ref z0, .ref jp, .ref jc, .int cn, .int de, .int tr, .int se, .int hu, .int sd])), (jp, .inl (cP, 8, .inr (.inr (.inr (.inr (va_up fp cn.toNatClampNeg (some q_2))))))), (q_2, .inr (2, [.int ki, .int a_, .int ta]))]) hP hD rfl
    clear hP hD
    obtain ⟨hP, hD⟩ := h9R
    refine lv_aload_n hx hb dX0_addPull_30 rfl (lv_at hl 0 rfl) ?_
    refine lv_dup hx hb dX0_addPull_31 rfl ?_
    refine va_get (D := D) (ci := 0) (v := .int cn) (C := RX0) (T := TX0) (N := 9) hx hb hts hi_X0_addPull_0 hown hK hP 0 rfl rfl 3 (by decide) (hts (.fieldLink RX0 28 "TheLiningsInIt$Jacket" "pullCount" "I") (List.mem_of_getElem? (i := 1) rfl)) (fun _ h9 => h9) rfl dX0_addPull_32 ?_
    refine lv_dup_x1 hx hb dX0_addPull_35 rfl rfl ?_
    refine lv_iconst (v := 1) hx hb dX0_addPull_36 (by decide) ?_
    refine lv_iadd hx hb dX0_addPull_37 ?_
    refine lv_topi (fun x_5 ex_5 => ?_)
    have qx_5 : x_5.toInt = cn.toInt + 1 := dw_incK ex_5 fc_1 (by decide)
    refine va_put (D := D) (ci := 0) (v := .int x_5) (ty := .int) (C := RX0) (T := TX0) (N := 9) hx hb hts hi_X0_addPull_0 tyX0 tyX0_ok nmX0 hown hK hP hD hS 0 rfl rfl 3 (by decide) (hts (.fieldLink RX0 28 "TheLiningsInIt$Jacket" "pullCount" "I") (List.mem_of_getElem? (i := 1) rfl)) (fun _ h9 => h9) rfl (tyX0_ok 3 (Nat.le_of_ble_eq_true rfl)) rfl rfl (Nat.le_of_ble_eq_true rfl) dX0_addPull_38 (fun H locs hP hD hS => ?_)
    have h9R := zRe (ws' := [(j0, .inr (0, [.ref z0, .ref jp, .ref jc, .int x_5, .int de, .int tr, .int se, .int hu, .int sd])), (jp, .inl (cP, 8, .inr (.inr (.inr (.inr (va_up fp cn.toNatClampNeg (some q_2))))))), (q_2, .inr (2, [.int ki, .int a_, .int ta]))]) hP hD rfl
    clear hP hD
    obtain ⟨hP, hD⟩ := h9R
    refine W.widen (k := 1) (n := 3) (Nat.le_of_ble_eq_true rfl) (Nat.le_of_ble_eq_true rfl) ?_
    exact W.iret (v := cn) hx hb hr (fun t ht hW => ⟨⟨cn, (x_5, (va_up fp cn.toNatClampNeg (some q_2)), (upd kf cn.toNatClampNeg ki), (upd af cn.toNatClampNeg a_), (upd tf cn.toNatClampNeg ta), [(q_2, (ki : Int32), (a_ : Int32), (ta : Int32))]), rfl, ⟨(show 0 ≤ x_5.toInt ∧ x_5.toInt ≤ 8 from ⟨by omega, by omega⟩), (by intro z hz; simp only [List.mem_cons, List.not_mem_nil, or_false] at hz; subst hz; exact ⟨⟨by omega, by omega⟩, ⟨by omega, by omega⟩, by omega, by omega⟩), (show zExt ([(q_2, (ki : Int32), (a_ : Int32), (ta : Int32))]) fp cn kf af tf (va_up fp cn.toNatClampNeg (some q_2)) x_5 (upd kf cn.toNatClampNeg ki) (upd af cn.toNatClampNeg a_) (upd tf cn.toNatClampNeg ta) from by first | exact zExt.refl | exact zExt_new (by omega) (by omega)), (show (cn.toInt < 8 → x_5.toInt = cn.toInt + 1 ∧ (cn : Int32).toInt = cn.toInt) from by (intro h; first | omega | (exfalso; omega))), (show (cn.toInt < 8 → (upd kf cn.toNatClampNeg ki) = upd kf cn.toNatClampNeg ki ∧ (upd af cn.toNatClampNeg a_) = upd af cn.toNatClampNeg a_ ∧ (upd tf cn.toNatClampNeg ta) = upd tf cn.toNatClampNeg ta) from by (intro h; first | exact ⟨rfl, rfl, rfl⟩ | (exfalso; omega))), trivial⟩, zRet ht hP hD [0, 1, 2] (by decide) rfl⟩, hS.F ht⟩) hS.2.2 dX0_addPull_41
  · have fc_1 : 8 ≤ cn.toInt := zf_nlt c_1 rfl (by decide)
    refine lv_iconst (v := (-1)) hx hb dX0_addPull_9 (by decide) ?_
    refine W.widen (k := 1) (n := 3) (Nat.le_of_ble_eq_true rfl) (Nat.le_of_ble_eq_true rfl) ?_
    exact W.iret (v := (-1)) hx hb hr (fun t ht hW => ⟨⟨(-1), (cn, fp, kf, af, tf, []), rfl, ⟨(show 0 ≤ cn.toInt ∧ cn.toInt ≤ 8 from ⟨hy0, hy1⟩), (by intro z hz; simp at hz), (show zExt [] fp cn kf af tf fp cn kf af tf from by first | exact zExt.refl | exact zExt_new (by omega) (by omega)), (show (cn.toInt < 8 → cn.toInt = cn.toInt + 1 ∧ ((-1) : Int32).toInt = cn.toInt) from by (intro h; first | omega | (exfalso; omega))), (show (cn.toInt < 8 → kf = upd kf cn.toNatClampNeg ki ∧ af = upd af cn.toNatClampNeg a_ ∧ tf = upd tf cn.toNatClampNeg ta) from by (intro h; first | exact ⟨rfl, rfl, rfl⟩ | (exfalso; omega))), trivial⟩, zRet ht hP hD [0, 1] (by decide) rfl⟩, hS.F ht⟩) hS.2.2 dX0_addPull_10
set_option maxHeartbeats 4000000 in
set_option maxRecDepth 100000 in
theorem c_F_Zip_renew (l : Launch) (D : va_G) (cI cJ cZ cP cS : ClassId) (po : zPool) (z0 zl zs : Nat) (sz at_ gp : Int32) (fl fs : Nat → Int32) (n : Int32) (hy0 : 4 ≤ sz.toInt) (hy1 : sz.toInt ≤ 40) (hy2 : 0 ≤ at_.toInt) (hy3 : at_.toInt ≤ 40) (hy4 : 1 ≤ gp.toInt) (hy5 : gp.toInt ≤ 9) (hy6 : 4 ≤ n.toInt) (hy7 : n.toInt ≤ 40) (hp_fl : zRg fl (0) 1) (hp_fs : zRg fs (0) 9) (hpz : Nat) : Met l yX6_renew wsX6_renew ({ frames := 0, cells := 0, slots := 0, locals := 0 }) (va_Pc [.ref z0, .int n] (zW D (zKT cI cJ cZ cP cS) po [(z0, .inr (6, [.ref zl, .ref zs, .int sz, .int at_, .int gp])), (zl, .inl (cZ, 40, .inl fl)), (zs, .inl (cI, 40, .inl fs))] hpz)) (va_Qv (fun (u : (Int32) × (Int32) × (Nat → Int32) × (Nat → Int32)) => (4 ≤ u.1.toInt ∧ u.1.toInt ≤ 40) ∧ (0 ≤ u.2.1.toInt ∧ u.2.1.toInt ≤ 40) ∧ zRg u.2.2.1 (0) 1 ∧ zRg u.2.2.2 (0) 9 ∧ (u.1 = n) ∧ ((∀ j : Nat, j < 40 → u.2.2.1 j = 0)) ∧ ((∀ j : Nat, j < 40 → u.2.2.2 j = 0)) ∧ (u.2.1.toInt = 0) ∧ (True)) (zB D [(z0, .inr (6, [.ref zl, .ref zs, .int sz, .int at_, .int gp])), (zl, .inl (cZ, 40, .inl fl)), (zs, .inl (cI, 40, .inl fs))] hpz (fun (u : (Int32) × (Int32) × (Nat → Int32) × (Nat → Int32)) => [(z0, .inr (6, [.ref zl, .ref zs, .int u.1, .int u.2.1, .int gp])), (zl, .inl (cZ, 40, .inl u.2.2.1)), (zs, .inl (cI, 40, .inl u.2.2.2))])) (va_A [(z0, .inr (6, [.ref zl, .ref zs, .int sz, .int at_, .int gp])), (zl, .inl (cZ, 40, .inl fl)), (zs, .inl (cI, 40, .inl fs))] hpz)) 0 0 (va_A [(z0, .inr (6, [.ref zl, .ref zs, .int sz, .int at_, .int gp])), (zl, .inl (cZ, 40, .inl fl)), (zs, .inl (cI, 40, .inl fs))] hpz) := by
  refine Met.ofW (cc := cX6_renew) (maxL := 3) (ret := none) (by decide) rfl ?_
  intro p e s m args below meth c s₁ B hml hv
  obtain ⟨rfl, hsz, hP, hK, hD0, hN, hZ⟩ := hv
  have hx := B.exec
  have hb := B.bytes
  have hr := B.returns
  have hts := atoms_spec (ws := wsX6_renew) B.pre
  have hown : s.vm.findClass RX6 = some m.cls := findClass_of_methodNamed B.named
  have hlocks := B.notSynchronized
  subst hsz
  have hD := hD0.self (sz := s.heap.size)
  have hA := zA_of hD
  have hl := lv_entry ([.ref z0, .int n]) (n := 3) (Nat.le_of_ble_eq_true rfl)
  rw [lg_entry_eq]
  generalize (lg_sl ([.ref z0, .int n]) ++ List.replicate (3 - (lg_sl ([.ref z0, .int n])).length) Slot.unset).toArray = ls at hl ⊢
  replace hl : lv_has ls 3 [(0, .ref z0), (1, .int n)] := hl
  refine zw_begin hP hD (fun H locs hP1 hS => ?_)
  clear hP
  have hP := hP1
  clear hP1
  refine lv_aload_n hx hb dX6_renew_0 rfl (lv_at hl 0 rfl) ?_
  refine lv_iload_n hx hb dX6_renew_1 rfl (lv_at hl 1 rfl) ?_
  refine va_put (D := D) (ci := 6) (v := .int n) (ty := .int) (C := RX6) (T := TX6) (N := 5) hx hb hts hi_X6_renew_6 tyX6 tyX6_ok nmX6 hown hK hP hD hS 0 rfl rfl 2 (by decide) (hts (.fieldLink RX6 19 "TheLiningsInIt$Zip" "size" "I") (List.mem_of_getElem? (i := 1) rfl)) (fun _ h9 => h9) rfl (tyX6_ok 2 (Nat.le_of_ble_eq_true rfl)) rfl rfl (Nat.le_of_ble_eq_true rfl) dX6_renew_2 (fun H locs hP hD hS => ?_)
  have h9R := zRe (ws' := [(z0, .inr (6, [.ref zl, .ref zs, .int n, .int at_, .int gp])), (zl, .inl (cZ, 40, .inl fl)), (zs, .inl (cI, 40, .inl fs))]) hP hD rfl
  clear hP hD
  obtain ⟨hP, hD⟩ := h9R
  refine lv_aload_n hx hb dX6_renew_5 rfl (lv_at hl 0 rfl) ?_
  refine lv_iconst (v := 0) hx hb dX6_renew_6 (by decide) ?_
  refine va_put (D := D) (ci := 6) (v := .int 0) (ty := .int) (C := RX6) (T := TX6) (N := 5) hx hb hts hi_X6_renew_6 tyX6 tyX6_ok nmX6 hown hK hP hD hS 0 rfl rfl 3 (by decide) (hts (.fieldLink RX6 23 "TheLiningsInIt$Zip" "at" "I") (List.mem_of_getElem? (i := 2) rfl)) (fun _ h9 => h9) rfl (tyX6_ok 3 (Nat.le_of_ble_eq_true rfl)) rfl rfl (Nat.le_of_ble_eq_true rfl) dX6_renew_7 (fun H locs hP hD hS => ?_)
  have h9R := zRe (ws' := [(z0, .inr (6, [.ref zl, .ref zs, .int n, .int 0, .int gp])), (zl, .inl (cZ, 40, .inl fl)), (zs, .inl (cI, 40, .inl fs))]) hP hD rfl
  clear hP hD
  obtain ⟨hP, hD⟩ := h9R
  refine lv_iconst (v := 0) hx hb dX6_renew_10 (by decide) ?_
  refine lv_istore_n (lv' := [(2, .int 0), (0, .ref z0), (1, .int n)]) hx hb dX6_renew_11 rfl hl (by decide) rfl (fun ls hl => ?_)
  obtain ⟨i_12, hi_12⟩ : ∃ i : Int32, i = 0 := ⟨_, rfl⟩
  replace hl : lv_has ls 3 [(2, .int i_12), (0, .ref z0), (1, .int n)] := by rw [hi_12]; exact lv_sub hl [0, 1, 2] rfl
  have h1i_12 : i_12.toInt = 0 := by rw [hi_12]; decide
  obtain ⟨nfu, hni_12⟩ : ∃ nq9 : Nat, 40 ≤ i_12.toInt + (nq9 : Int) := ⟨((40 : Int) - 0).toNat, by omega⟩
  have hloi_12 : 0 ≤ i_12.toInt := by omega
  obtain ⟨g_1, hg_1⟩ : ∃ g : Nat → Int32, g = fl := ⟨_, rfl⟩
  have hpg_1 : zRg g_1 (0) 1 := by rw [hg_1]; exact hp_fl
  obtain ⟨g_2, hg_2⟩ : ∃ g : Nat → Int32, g = fs := ⟨_, rfl⟩
  have hpg_2 : zRg g_2 (0) 9 := by rw [hg_2]; exact hp_fs
  replace hP : va_P D vwCl [(z0, .inr (6, [.ref zl, .ref zs, .int n, .int 0, .int gp])), (zl, .inl (cZ, 40, .inl g_1)), (zs, .inl (cI, 40, .inl g_2))] H := by rw [hg_1, hg_2]; exact hP
  replace hD : va_D (va_A [(z0, .inr (6, [.ref zl, .ref zs, .int sz, .int at_, .int gp])), (zl, .inl (cZ, 40, .inl fl)), (zs, .inl (cI, 40, .inl fs))] s.heap.size) [(z0, .inr (6, [.ref zl, .ref zs, .int n, .int 0, .int gp])), (zl, .inl (cZ, 40, .inl g_1)), (zs, .inl (cI, 40, .inl g_2))] := by rw [hg_1, hg_2]; exact hD
  have hvi_12_0 : (∀ j : Nat, (j : Int) < i_12.toInt → g_1 j = 0) := by
    (try rw [hi_12]); (try rw [hg_1]); (try rw [hg_2]); (intro j hj; exfalso; have k0 : (0 : Int32).toInt = 0 := (by decide); omega)
  have hvi_12_1 : (∀ j : Nat, (j : Int) < i_12.toInt → g_2 j = 0) := by
    (try rw [hi_12]); (try rw [hg_1]); (try rw [hg_2]); (intro j hj; exfalso; have k0 : (0 : Int32).toInt = 0 := (by decide); omega)
  clear h1i_12 hi_12 hg_1 hg_2
  skip
  revert hni_12
  revert hloi_12
  revert hvi_12_1
  revert hvi_12_0
  revert hpg_2
  revert hpg_1
  revert hl
  revert hS
  revert hD
  revert hP
  revert ls
  revert locs
  revert H
  revert g_1
  revert g_2
  revert i_12
  induction nfu with
  | zero =>
    intro i_12 g_2 g_1 H locs ls hP hD hS hl hpg_1 hpg_2 hvi_12_0 hvi_12_1 hloi_12 hni_12
    have hzi_12 : 40 ≤ i_12.toInt := by omega
    refine lv_iload_n hx hb dX6_renew_12 rfl (lv_at hl 0 rfl) ?_
    refine lv_bipush (v := 40) hx hb dX6_renew_13 (by decide) ?_
    refine lv_icmp_ge (tgt := 38) hx hb dX6_renew_15 (by decide) (fun c_3 => ?_) (fun c_3 => ?_)
    · have fc_3 : 40 ≤ i_12.toInt := zf_le c_3 (by decide) rfl
      exact W.vret hx hb hr (fun t ht hW => ⟨⟨(n, 0, g_1, g_2), rfl, ⟨(show 4 ≤ n.toInt ∧ n.toInt ≤ 40 from ⟨hy6, hy7⟩), (show 0 ≤ (0 : Int32).toInt ∧ (0 : Int32).toInt ≤ 40 from by decide), hpg_1, hpg_2, (show n = n from by rfl), (show (∀ j : Nat, j < 40 → g_1 j = 0) from by (intro j hj; exact hvi_12_0 j (by omega))), (show (∀ j : Nat, j < 40 → g_2 j = 0) from by (intro j hj; exact hvi_12_1 j (by omega))), (show (0 : Int32).toInt = 0 from by decide), trivial⟩, zRet ht hP hD [0, 1, 2] (by decide) rfl⟩, hS.F ht⟩) hS.2.2 dX6_renew_38
    · exfalso; have fc_3 : i_12.toInt < 40 := zf_nle c_3 (by decide) rfl; omega
  | succ nfu ih =>
    intro i_12 g_2 g_1 H locs ls hP hD hS hl hpg_1 hpg_2 hvi_12_0 hvi_12_1 hloi_12 hni_12
    refine lv_iload_n hx hb dX6_renew_12 rfl (lv_at hl 0 rfl) ?_
    refine lv_bipush (v := 40) hx hb dX6_renew_13 (by decide) ?_
    refine lv_icmp_ge (tgt := 38) hx hb dX6_renew_15 (by decide) (fun c_4 => ?_) (fun c_4 => ?_)
    · have fc_4 : 40 ≤ i_12.toInt := zf_le c_4 (by decide) rfl
      exact W.vret hx hb hr (fun t ht hW => ⟨⟨(n, 0, g_1, g_2), rfl, ⟨(show 4 ≤ n.toInt ∧ n.toInt ≤ 40 from ⟨hy6, hy7⟩), (show 0 ≤ (0 : Int32).toInt ∧ (0 : Int32).toInt ≤ 40 from by decide), hpg_1, hpg_2, (show n = n from by rfl), (show (∀ j : Nat, j < 40 → g_1 j = 0) from by (intro j hj; exact hvi_12_0 j (by omega))), (show (∀ j : Nat, j < 40 → g_2 j = 0) from by (intro j hj; exact hvi_12_1 j (by omega))), (show (0 : Int32).toInt = 0 from by decide), trivial⟩, zRet ht hP hD [0, 1, 2] (by decide) rfl⟩, hS.F ht⟩) hS.2.2 dX6_renew_38
    · have fc_4 : i_12.toInt < 40 := zf_nle c_4 (by decide) rfl
      refine lv_aload_n hx hb dX6_renew_18 rfl (lv_at hl 1 rfl) ?_
      refine va_get (D := D) (ci := 6) (v := .ref zl) (C := RX6) (T := TX6) (N := 5) hx hb hts hi_X6_renew_6 hown hK hP 0 rfl rfl 0 (by decide) (hts (.fieldLink RX6 9 "TheLiningsInIt$Zip" "lacking" "[Z") (List.mem_of_getElem? (i := 3) rfl)) (fun _ h9 => h9) rfl dX6_renew_19 ?_
      refine lv_iload_n hx hb dX6_renew_22 rfl (lv_at hl 0 rfl) ?_
      refine lv_iconst (v := 0) hx hb dX6_renew_23 (by decide) ?_
      refine va_zast hx hb hK hP hD hS 1 2 rfl rfl (zf_in (by omega) (by omega)) dX6_renew_24 (fun H locs hP hD hS => ?_)
      rw [zNarZ (by decide) (by decide)] at hP hD
      have hpg_5 : zRg (upd g_1 i_12.toNatClampNeg 0) (0) 1 := zRg_upd hpg_1 (by decide) (by decide)
      obtain ⟨g_5, hg_5⟩ : ∃ g : Nat → Int32, g = upd g_1 i_12.toNatClampNeg 0 := ⟨_, rfl⟩
      rw [← hg_5] at hP hD hpg_5
      have h9R := zRe (ws' := [(z0, .inr (6, [.ref zl, .ref zs, .int n, .int 0, .int gp])), (zl, .inl (cZ, 40, .inl g_5)), (zs, .inl (cI, 40, .inl g_2))]) hP hD rfl
      clear hP hD
      obtain ⟨hP, hD⟩ := h9R
      refine lv_aload_n hx hb dX6_renew_25 rfl (lv_at hl 1 rfl) ?_
      refine va_get (D := D) (ci := 6) (v := .ref zs) (C := RX6) (T := TX6) (N := 5) hx hb hts hi_X6_renew_6 hown hK hP 0 rfl rfl 1 (by decide) (hts (.fieldLink RX6 15 "TheLiningsInIt$Zip" "slacks" "[I") (List.mem_of_getElem? (i := 4) rfl)) (fun _ h9 => h9) rfl dX6_renew_26 ?_
      refine lv_iload_n hx hb dX6_renew_29 rfl (lv_at hl 0 rfl) ?_
      refine lv_iconst (v := 0) hx hb dX6_renew_30 (by decide) ?_
      refine va_iast hx hb hK hP hD hS 2 0 rfl rfl (zf_in (by omega) (by omega)) dX6_renew_31 (fun H locs hP hD hS => ?_)
      have hpg_6 : zRg (upd g_2 i_12.toNatClampNeg 0) (0) 9 := zRg_upd hpg_2 (by decide) (by decide)
      obtain ⟨g_6, hg_6⟩ : ∃ g : Nat → Int32, g = upd g_2 i_12.toNatClampNeg 0 := ⟨_, rfl⟩
      rw [← hg_6] at hP hD hpg_6
      have h9R := zRe (ws' := [(z0, .inr (6, [.ref zl, .ref zs, .int n, .int 0, .int gp])), (zl, .inl (cZ, 40, .inl g_5)), (zs, .inl (cI, 40, .inl g_6))]) hP hD rfl
      clear hP hD
      obtain ⟨hP, hD⟩ := h9R
      obtain ⟨x_7, ex_7⟩ : ∃ y : Int32, y = i_12 + 1 := ⟨_, rfl⟩
      have qx_7 : x_7.toInt = i_12.toInt + 1 := dw_incK ex_7 fc_4 (by decide)
      refine lv_iinc (v := x_7) (lv' := [(2, .int x_7), (0, .ref z0), (1, .int n)]) hx hb dX6_renew_32 hl (k := 0) rfl ex_7.symm (by decide) rfl (fun ls hl => ?_)
      refine lv_goto (tgt := 12) hx hb dX6_renew_35 (by decide) ?_
      exact ih x_7 (g_6) (g_5) _ _ _ (hP.sub [0, 1, 2] rfl) (hD.sub [0, 1, 2] (by decide) rfl) hS (lv_sub hl [0, 1, 2] rfl) hpg_5 hpg_6 (show (∀ j : Nat, (j : Int) < x_7.toInt → g_5 j = 0) from by (intro j hj; rw [hg_5]; simp only [upd]; have h7 : i_12.toNatClampNeg = i_12.toInt.toNat := rfl; by_cases e9 : j = i_12.toNatClampNeg; (rw [if_pos e9]); (rw [if_neg e9]; exact hvi_12_0 j (by omega)))) (show (∀ j : Nat, (j : Int) < x_7.toInt → g_6 j = 0) from by (intro j hj; rw [hg_6]; simp only [upd]; have h7 : i_12.toNatClampNeg = i_12.toInt.toNat := rfl; by_cases e9 : j = i_12.toNatClampNeg; (rw [if_pos e9]); (rw [if_neg e9]; exact hvi_12_1 j (by omega)))) (dw_lo hloi_12 qx_7) (dw_hn hni_12 qx_7)
set_option maxHeartbeats 4000000 in
set_option maxRecDepth 100000 in
theorem c_F_J_setNumber (l : Launch) (D : va_G) (cI cJ cZ cP cS : ClassId) (po : zPool) (j0 jp jc z0 zl zs : Nat) (cn de tr se hu sd : Int32) (sz at_ gp : Int32) (fc : Nat → Int32) (w v : Int32) (hy0 : 0 ≤ cn.toInt) (hy1 : cn.toInt ≤ 8) (hy2 : 0 ≤ de.toInt) (hy3 : de.toInt ≤ 24) (hy4 : 0 ≤ hu.toInt) (hy5 : hu.toInt ≤ 9) (hy6 : 4 ≤ sz.toInt) (hy7 : sz.toInt ≤ 40) (hy8 : 0 ≤ at_.toInt) (hy9 : at_.toInt ≤ 40) (hy10 : 1 ≤ gp.toInt) (hy11 : gp.toInt ≤ 9) (hy12 : 0 ≤ w.toInt) (hy13 : w.toInt ≤ 7) (hset : (w.toInt = 0 → v.toInt ≤ 24) ∧ (w.toInt = 2 → v.toInt ≤ 9) ∧ (w.toInt = 3 → 1 ≤ v.toInt ∧ v.toInt ≤ 9) ∧ (w.toInt = 7 → v.toInt ≤ 40) ∧ (4 ≤ w.toInt → w.toInt ≤ 6 → v.toInt ≤ 99) ∧ 0 ≤ v.toInt) (hp_fc : zRg fc (0) 99) (hp_fc : zRg fc (0) 99) (hpz : Nat) : Met l yX0_setNumber wsX0_setNumber ({ frames := 1, cells := 0, slots := 0, locals := 22 }) (va_Pc [.ref j0, .int w, .int v] (zW D (zKT cI cJ cZ cP cS) po [(j0, .inr (0, [.ref z0, .ref jp, .ref jc, .int cn, .int de, .int tr, .int se, .int hu, .int sd])), (z0, .inr (6, [.ref zl, .ref zs, .int sz, .int at_, .int gp])), (jc, .inl (cI, 3, .inl fc))] hpz)) (va_Qv (fun (u : (Int32) × (Int32) × (Int32) × (Int32) × (Int32) × (Nat → Int32)) => (0 ≤ u.1.toInt ∧ u.1.toInt ≤ 24) ∧ (0 ≤ u.2.2.1.toInt ∧ u.2.2.1.toInt ≤ 9) ∧ (0 ≤ u.2.2.2.1.toInt ∧ u.2.2.2.1.toInt ≤ 40) ∧ (1 ≤ u.2.2.2.2.1.toInt ∧ u.2.2.2.2.1.toInt ≤ 9) ∧ zRg u.2.2.2.2.2 (0) 99 ∧ (u.1.toInt = (if w.toInt = 0 then v.toInt else de.toInt) ∧ u.2.1.toInt = (if w.toInt = 1 then v.toInt else se.toInt) ∧ u.2.2.1.toInt = (if w.toInt = 2 then v.toInt else hu.toInt) ∧ u.2.2.2.2.1.toInt = (if w.toInt = 3 then v.toInt else gp.toInt) ∧ u.2.2.2.1.toInt = (if w.toInt = 7 then v.toInt else at_.toInt)) ∧ ((w.toInt < 4 ∨ 6 < w.toInt → u.2.2.2.2.2 = fc) ∧ (4 ≤ w.toInt → w.toInt ≤ 6 → u.2.2.2.2.2 = upd fc (w.toInt - 4).toNat v)) ∧ (True)) (zB D [(j0, .inr (0, [.ref z0, .ref jp, .ref jc, .int cn, .int de, .int tr, .int se, .int hu, .int sd])), (z0, .inr (6, [.ref zl, .ref zs, .int sz, .int at_, .int gp])), (jc, .inl (cI, 3, .inl fc))] hpz (fun (u : (Int32) × (Int32) × (Int32) × (Int32) × (Int32) × (Nat → Int32)) => [(j0, .inr (0, [.ref z0, .ref jp, .ref jc, .int cn, .int u.1, .int tr, .int u.2.1, .int u.2.2.1, .int sd])), (z0, .inr (6, [.ref zl, .ref zs, .int sz, .int u.2.2.2.1, .int u.2.2.2.2.1])), (jc, .inl (cI, 3, .inl u.2.2.2.2.2))])) (va_A [(j0, .inr (0, [.ref z0, .ref jp, .ref jc, .int cn, .int de, .int tr, .int se, .int hu, .int sd])), (z0, .inr (6, [.ref zl, .ref zs, .int sz, .int at_, .int gp])), (jc, .inl (cI, 3, .inl fc))] hpz)) 0 0 (va_A [(j0, .inr (0, [.ref z0, .ref jp, .ref jc, .int cn, .int de, .int tr, .int se, .int hu, .int sd])), (z0, .inr (6, [.ref zl, .ref zs, .int sz, .int at_, .int gp])), (jc, .inl (cI, 3, .inl fc))] hpz) := by
  refine Met.ofW (cc := cX0_setNumber) (maxL := 3) (ret := none) (by decide) rfl ?_
  intro p e s m args below meth c s₁ B hml hv
  obtain ⟨rfl, hsz, hP, hK, hD0, hN, hZ⟩ := hv
  have hx := B.exec
  have hb := B.bytes
  have hr := B.returns
  have hts := atoms_spec (ws := wsX0_setNumber) B.pre
  have hown : s.vm.findClass RX0 = some m.cls := findClass_of_methodNamed B.named
  have hlocks := B.notSynchronized
  subst hsz
  have hD := hD0.self (sz := s.heap.size)
  have hA := zA_of hD
  have hl := lv_entry ([.ref j0, .int w, .int v]) (n := 3) (Nat.le_of_ble_eq_true rfl)
  rw [lg_entry_eq]
  generalize (lg_sl ([.ref j0, .int w, .int v]) ++ List.replicate (3 - (lg_sl ([.ref j0, .int w, .int v])).length) Slot.unset).toArray = ls at hl ⊢
  replace hl : lv_has ls 3 [(0, .ref j0), (1, .int w), (2, .int v)] := hl
  refine zw_begin hP hD (fun H locs hP1 hS => ?_)
  clear hP
  have hP := hP1
  clear hP1
  refine lv_iload_n hx hb dX0_setNumber_0 rfl (lv_at hl 1 rfl) ?_
  have hsp : w = 0 ∨ w = 1 ∨ w = 2 ∨ w = 3 ∨ w = 4 ∨ w = 5 ∨ w = 6 ∨ w = 7 := by
    rcases (show w.toInt = 0 ∨ w.toInt = 1 ∨ w.toInt = 2 ∨ w.toInt = 3 ∨ w.toInt = 4 ∨ w.toInt = 5 ∨ w.toInt = 6 ∨ w.toInt = 7 by omega) with h9 | h9 | h9 | h9 | h9 | h9 | h9 | h9
    · refine Or.inl ?_; exact zf_val h9 (by decide)
    · refine Or.inr (Or.inl ?_); exact zf_val h9 (by decide)
    · refine Or.inr (Or.inr (Or.inl ?_)); exact zf_val h9 (by decide)
    · refine Or.inr (Or.inr (Or.inr (Or.inl ?_))); exact zf_val h9 (by decide)
    · refine Or.inr (Or.inr (Or.inr (Or.inr (Or.inl ?_)))); exact zf_val h9 (by decide)
    · refine Or.inr (Or.inr (Or.inr (Or.inr (Or.inr (Or.inl ?_))))); exact zf_val h9 (by decide)
    · refine Or.inr (Or.inr (Or.inr (Or.inr (Or.inr (Or.inr (Or.inl ?_)))))); exact zf_val h9 (by decide)
    · refine Or.inr (Or.inr (Or.inr (Or.inr (Or.inr (Or.inr (Or.inr (?_))))))); exact zf_val h9 (by decide)
  rcases hsp with rfl | rfl | rfl | rfl | rfl | rfl | rfl | rfl
  · have kc0 : (0 : Int32).toInt = 0 := by decide
    refine lv_tableIn (tgt := 48) hx hb dX0_setNumber_1 (by decide) (by decide) rfl (by decide) ?_
    refine lv_aload_n hx hb dX0_setNumber_48 rfl (lv_at hl 0 rfl) ?_
    refine lv_iload_n hx hb dX0_setNumber_49 rfl (lv_at hl 2 rfl) ?_
    refine va_put (D := D) (ci := 0) (v := .int v) (ty := .int) (C := RX0) (T := TX0) (N := 9) hx hb hts hi_X0_setNumber_0 tyX0 tyX0_ok nmX0 hown hK hP hD hS 0 rfl rfl 4 (by decide) (hts (.fieldLink RX0 32 "TheLiningsInIt$Jacket" "depth" "I") (List.mem_of_getElem? (i := 1) rfl)) (fun _ h9 => h9) rfl (tyX0_ok 4 (Nat.le_of_ble_eq_true rfl)) rfl rfl (Nat.le_of_ble_eq_true rfl) dX0_setNumber_50 (fun H locs hP hD hS => ?_)
    have h9R := zRe (ws' := [(j0, .inr (0, [.ref z0, .ref jp, .ref jc, .int cn, .int v, .int tr, .int se, .int hu, .int sd])), (z0, .inr (6, [.ref zl, .ref zs, .int sz, .int at_, .int gp])), (jc, .inl (cI, 3, .inl fc))]) hP hD rfl
    clear hP hD
    obtain ⟨hP, hD⟩ := h9R
    refine lv_goto (tgt := 114) hx hb dX0_setNumber_53 (by decide) ?_
    exact W.vret hx hb hr (fun t ht hW => ⟨⟨(v, se, hu, at_, gp, fc), rfl, ⟨(show 0 ≤ v.toInt ∧ v.toInt ≤ 24 from ⟨by omega, by omega⟩), (show 0 ≤ hu.toInt ∧ hu.toInt ≤ 9 from ⟨hy4, hy5⟩), (show 0 ≤ at_.toInt ∧ at_.toInt ≤ 40 from ⟨hy8, hy9⟩), (show 1 ≤ gp.toInt ∧ gp.toInt ≤ 9 from ⟨hy10, hy11⟩), hp_fc, (show v.toInt = (if (0 : Int32).toInt = 0 then v.toInt else de.toInt) ∧ se.toInt = (if (0 : Int32).toInt = 1 then v.toInt else se.toInt) ∧ hu.toInt = (if (0 : Int32).toInt = 2 then v.toInt else hu.toInt) ∧ gp.toInt = (if (0 : Int32).toInt = 3 then v.toInt else gp.toInt) ∧ at_.toInt = (if (0 : Int32).toInt = 7 then v.toInt else at_.toInt) from by (refine ⟨?_, ?_, ?_, ?_, ?_⟩ <;> ((repeat (first | rw [if_pos (by omega)] | rw [if_neg (by omega)])) <;> first | rfl | omega))), (show ((0 : Int32).toInt < 4 ∨ 6 < (0 : Int32).toInt → fc = fc) ∧ (4 ≤ (0 : Int32).toInt → (0 : Int32).toInt ≤ 6 → fc = upd fc ((0 : Int32).toInt - 4).toNat v) from by (exact ⟨fun _ => rfl, fun h1 h2 => by (exfalso; omega)⟩)), trivial⟩, zRet ht hP hD [0, 1, 2] (by decide) rfl⟩, hS.F ht⟩) hS.2.2 dX0_setNumber_114
  · have kc1 : (1 : Int32).toInt = 1 := by decide
    refine lv_tableIn (tgt := 56) hx hb dX0_setNumber_1 (by decide) (by decide) rfl (by decide) ?_
    refine lv_aload_n hx hb dX0_setNumber_56 rfl (lv_at hl 0 rfl) ?_
    refine lv_iload_n hx hb dX0_setNumber_57 rfl (lv_at hl 2 rfl) ?_
    refine va_put (D := D) (ci := 0) (v := .int v) (ty := .int) (C := RX0) (T := TX0) (N := 9) hx hb hts hi_X0_setNumber_0 tyX0 tyX0_ok nmX0 hown hK hP hD hS 0 rfl rfl 6 (by decide) (hts (.fieldLink RX0 38 "TheLiningsInIt$Jacket" "seconds" "I") (List.mem_of_getElem? (i := 2) rfl)) (fun _ h9 => h9) rfl (tyX0_ok 6 (Nat.le_of_ble_eq_true rfl)) rfl rfl (Nat.le_of_ble_eq_true rfl) dX0_setNumber_58 (fun H locs hP hD hS => ?_)
    have h9R := zRe (ws' := [(j0, .inr (0, [.ref z0, .ref jp, .ref jc, .int cn, .int de, .int tr, .int v, .int hu, .int sd])), (z0, .inr (6, [.ref zl, .ref zs, .int sz, .int at_, .int gp])), (jc, .inl (cI, 3, .inl fc))]) hP hD rfl
    clear hP hD
    obtain ⟨hP, hD⟩ := h9R
    refine lv_goto (tgt := 114) hx hb dX0_setNumber_61 (by decide) ?_
    exact W.vret hx hb hr (fun t ht hW => ⟨⟨(de, v, hu, at_, gp, fc), rfl, ⟨(show 0 ≤ de.toInt ∧ de.toInt ≤ 24 from ⟨hy2, hy3⟩), (show 0 ≤ hu.toInt ∧ hu.toInt ≤ 9 from ⟨hy4, hy5⟩), (show 0 ≤ at_.toInt ∧ at_.toInt ≤ 40 from ⟨hy8, hy9⟩), (show 1 ≤ gp.toInt ∧ gp.toInt ≤ 9 from ⟨hy10, hy11⟩), hp_fc, (show de.toInt = (if (1 : Int32).toInt = 0 then v.toInt else de.toInt) ∧ v.toInt = (if (1 : Int32).toInt = 1 then v.toInt else se.toInt) ∧ hu.toInt = (if (1 : Int32).toInt = 2 then v.toInt else hu.toInt) ∧ gp.toInt = (if (1 : Int32).toInt = 3 then v.toInt else gp.toInt) ∧ at_.toInt = (if (1 : Int32).toInt = 7 then v.toInt else at_.toInt) from by (refine ⟨?_, ?_, ?_, ?_, ?_⟩ <;> ((repeat (first | rw [if_pos (by omega)] | rw [if_neg (by omega)])) <;> first | rfl | omega))), (show ((1 : Int32).toInt < 4 ∨ 6 < (1 : Int32).toInt → fc = fc) ∧ (4 ≤ (1 : Int32).toInt → (1 : Int32).toInt ≤ 6 → fc = upd fc ((1 : Int32).toInt - 4).toNat v) from by (exact ⟨fun _ => rfl, fun h1 h2 => by (exfalso; omega)⟩)), trivial⟩, zRet ht hP hD [0, 1, 2] (by decide) rfl⟩, hS.F ht⟩) hS.2.2 dX0_setNumber_114
  · have kc2 : (2 : Int32).toInt = 2 := by decide
    refine lv_tableIn (tgt := 64) hx hb dX0_setNumber_1 (by decide) (by decide) rfl (by decide) ?_
    refine lv_aload_n hx hb dX0_setNumber_64 rfl (lv_at hl 0 rfl) ?_
    refine lv_iload_n hx hb dX0_setNumber_65 rfl (lv_at hl 2 rfl) ?_
    refine va_put (D := D) (ci := 0) (v := .int v) (ty := .int) (C := RX0) (T := TX0) (N := 9) hx hb hts hi_X0_setNumber_0 tyX0 tyX0_ok nmX0 hown hK hP hD hS 0 rfl rfl 7 (by decide) (hts (.fieldLink RX0 41 "TheLiningsInIt$Jacket" "hurry" "I") (List.mem_of_getElem? (i := 3) rfl)) (fun _ h9 => h9) rfl (tyX0_ok 7 (Nat.le_of_ble_eq_true rfl)) rfl rfl (Nat.le_of_ble_eq_true rfl) dX0_setNumber_66 (fun H locs hP hD hS => ?_)
    have h9R := zRe (ws' := [(j0, .inr (0, [.ref z0, .ref jp, .ref jc, .int cn, .int de, .int tr, .int se, .int v, .int sd])), (z0, .inr (6, [.ref zl, .ref zs, .int sz, .int at_, .int gp])), (jc, .inl (cI, 3, .inl fc))]) hP hD rfl
    clear hP hD
    obtain ⟨hP, hD⟩ := h9R
    refine lv_goto (tgt := 114) hx hb dX0_setNumber_69 (by decide) ?_
    exact W.vret hx hb hr (fun t ht hW => ⟨⟨(de, se, v, at_, gp, fc), rfl, ⟨(show 0 ≤ de.toInt ∧ de.toInt ≤ 24 from ⟨hy2, hy3⟩), (show 0 ≤ v.toInt ∧ v.toInt ≤ 9 from ⟨by omega, by omega⟩), (show 0 ≤ at_.toInt ∧ at_.toInt ≤ 40 from ⟨hy8, hy9⟩), (show 1 ≤ gp.toInt ∧ gp.toInt ≤ 9 from ⟨hy10, hy11⟩), hp_fc, (show de.toInt = (if (2 : Int32).toInt = 0 then v.toInt else de.toInt) ∧ se.toInt = (if (2 : Int32).toInt = 1 then v.toInt else se.toInt) ∧ v.toInt = (if (2 : Int32).toInt = 2 then v.toInt else hu.toInt) ∧ gp.toInt = (if (2 : Int32).toInt = 3 then v.toInt else gp.toInt) ∧ at_.toInt = (if (2 : Int32).toInt = 7 then v.toInt else at_.toInt) from by (refine ⟨?_, ?_, ?_, ?_, ?_⟩ <;> ((repeat (first | rw [if_pos (by omega)] | rw [if_neg (by omega)])) <;> first | rfl | omega))), (show ((2 : Int32).toInt < 4 ∨ 6 < (2 : Int32).toInt → fc = fc) ∧ (4 ≤ (2 : Int32).toInt → (2 : Int32).toInt ≤ 6 → fc = upd fc ((2 : Int32).toInt - 4).toNat v) from by (exact ⟨fun _ => rfl, fun h1 h2 => by (exfalso; omega)⟩)), trivial⟩, zRet ht hP hD [0, 1, 2] (by decide) rfl⟩, hS.F ht⟩) hS.2.2 dX0_setNumber_114
  · have kc3 : (3 : Int32).toInt = 3 := by decide
    refine lv_tableIn (tgt := 72) hx hb dX0_setNumber_1 (by decide) (by decide) rfl (by decide) ?_
    refine lv_aload_n hx hb dX0_setNumber_72 rfl (lv_at hl 0 rfl) ?_
    refine va_get (D := D) (ci := 0) (v := .ref z0) (C := RX0) (T := TX0) (N := 9) hx hb hts hi_X0_setNumber_0 hown hK hP 0 rfl rfl 0 (by decide) (hts (.fieldLink RX0 12 "TheLiningsInIt$Jacket" "zip" "LTheLiningsInIt$Zip;") (List.mem_of_getElem? (i := 4) rfl)) (fun _ h9 => h9) rfl dX0_setNumber_73 ?_
    refine lv_iload_n hx hb dX0_setNumber_76 rfl (lv_at hl 2 rfl) ?_
    refine va_put (D := D) (ci := 6) (v := .int v) (ty := .int) (C := RX6) (T := TX6) (N := 5) hx hb hts hi_X0_setNumber_6 tyX6 tyX6_ok nmX6 hown hK hP hD hS 1 rfl rfl 4 (by decide) (hts (.fieldLink RX0 60 "TheLiningsInIt$Zip" "gap" "I") (List.mem_of_getElem? (i := 5) rfl)) (fun _ h9 => h9) rfl (tyX6_ok 4 (Nat.le_of_ble_eq_true rfl)) rfl rfl (Nat.le_of_ble_eq_true rfl) dX0_setNumber_77 (fun H locs hP hD hS => ?_)
    have h9R := zRe (ws' := [(j0, .inr (0, [.ref z0, .ref jp, .ref jc, .int cn, .int de, .int tr, .int se, .int hu, .int sd])), (z0, .inr (6, [.ref zl, .ref zs, .int sz, .int at_, .int v])), (jc, .inl (cI, 3, .inl fc))]) hP hD rfl
    clear hP hD
    obtain ⟨hP, hD⟩ := h9R
    refine lv_goto (tgt := 114) hx hb dX0_setNumber_80 (by decide) ?_
    exact W.vret hx hb hr (fun t ht hW => ⟨⟨(de, se, hu, at_, v, fc), rfl, ⟨(show 0 ≤ de.toInt ∧ de.toInt ≤ 24 from ⟨hy2, hy3⟩), (show 0 ≤ hu.toInt ∧ hu.toInt ≤ 9 from ⟨hy4, hy5⟩), (show 0 ≤ at_.toInt ∧ at_.toInt ≤ 40 from ⟨hy8, hy9⟩), (show 1 ≤ v.toInt ∧ v.toInt ≤ 9 from ⟨by omega, by omega⟩), hp_fc, (show de.toInt = (if (3 : Int32).toInt = 0 then v.toInt else de.toInt) ∧ se.toInt = (if (3 : Int32).toInt = 1 then v.toInt else se.toInt) ∧ hu.toInt = (if (3 : Int32).toInt = 2 then v.toInt else hu.toInt) ∧ v.toInt = (if (3 : Int32).toInt = 3 then v.toInt else gp.toInt) ∧ at_.toInt = (if (3 : Int32).toInt = 7 then v.toInt else at_.toInt) from by (refine ⟨?_, ?_, ?_, ?_, ?_⟩ <;> ((repeat (first | rw [if_pos (by omega)] | rw [if_neg (by omega)])) <;> first | rfl | omega))), (show ((3 : Int32).toInt < 4 ∨ 6 < (3 : Int32).toInt → fc = fc) ∧ (4 ≤ (3 : Int32).toInt → (3 : Int32).toInt ≤ 6 → fc = upd fc ((3 : Int32).toInt - 4).toNat v) from by (exact ⟨fun _ => rfl, fun h1 h2 => by (exfalso; omega)⟩)), trivial⟩, zRet ht hP hD [0, 1, 2] (by decide) rfl⟩, hS.F ht⟩) hS.2.2 dX0_setNumber_114
  · have kc4 : (4 : Int32).toInt = 4 := by decide
    refine lv_tableIn (tgt := 94) hx hb dX0_setNumber_1 (by decide) (by decide) rfl (by decide) ?_
    refine lv_iload_n hx hb dX0_setNumber_94 rfl (lv_at hl 1 rfl) ?_
    refine lv_iconst (v := 4) hx hb dX0_setNumber_95 (by decide) ?_
    refine lv_isub hx hb dX0_setNumber_96 ?_
    refine lv_topi (fun y_1 ey_1 => ?_)
    obtain rfl : y_1 = 0 := ey_1.trans (by decide)
    refine lv_iconst (v := 0) hx hb dX0_setNumber_97 (by decide) ?_
    refine lv_iconst (v := 2) hx hb dX0_setNumber_98 (by decide) ?_
    have kc0 : (0 : Int32).toInt = 0 := by decide
    have kc2 : (2 : Int32).toInt = 2 := by decide
    refine zc_SN (As := [.int 0, .int 0, .int 2]) (rest := []) ⟨hx, hb, hml, hown, hts⟩ (c_within l D cI cJ cZ cP cS po (0) (0) (2) ) ⟨(va_cnB 3 hts gX0_setNumber_X7_within_n66 rfl rfl rfl (hN.1 (RX0, 66, yX7_within) (List.mem_of_getElem? (i := 6) rfl)) (hts _ (List.mem_of_getElem? (i := 9) rfl)) dh_X7_within ⟨Nat.le_of_ble_eq_true rfl, Nat.le_of_ble_eq_true rfl⟩), (hts _ (List.mem_of_getElem? (i := 8) rfl)), trivial⟩ hK hN (hZ.kept hS) rfl hl.1 rfl (Nat.le_of_ble_eq_true rfl) dX0_setNumber_99 ⟨Nat.le_of_ble_eq_true rfl, Nat.le_of_ble_eq_true rfl⟩ (fun r_2 hr_2 => ?_)
    rcases hr_2 with ⟨rfl, g_3⟩ | ⟨rfl, g_4, g_5⟩ | ⟨rfl, g_6, g_7⟩
    · exfalso; omega
    · exfalso; omega
    · refine lv_if_eq (tgt := 114) hx hb dX0_setNumber_102 (by decide) (fun c_8 => ?_) (fun c_8 => ?_)
      · exact absurd c_8 (by decide)
      · refine lv_aload_n hx hb dX0_setNumber_105 rfl (lv_at hl 0 rfl) ?_
        refine va_get (D := D) (ci := 0) (v := .ref jc) (C := RX0) (T := TX0) (N := 9) hx hb hts hi_X0_setNumber_0 hown hK hP 0 rfl rfl 2 (by decide) (hts (.fieldLink RX0 24 "TheLiningsInIt$Jacket" "costs" "[I") (List.mem_of_getElem? (i := 7) rfl)) (fun _ h9 => h9) rfl dX0_setNumber_106 ?_
        refine lv_iload_n hx hb dX0_setNumber_109 rfl (lv_at hl 1 rfl) ?_
        refine lv_iconst (v := 4) hx hb dX0_setNumber_110 (by decide) ?_
        refine lv_isub hx hb dX0_setNumber_111 ?_
        refine lv_topi (fun y_9 ey_9 => ?_)
        obtain rfl : y_9 = 0 := ey_9.trans (by decide)
        refine lv_iload_n hx hb dX0_setNumber_112 rfl (lv_at hl 2 rfl) ?_
        refine va_iast hx hb hK hP hD hS 2 0 rfl rfl (zf_in (by decide) (by decide)) dX0_setNumber_113 (fun H locs hP hD hS => ?_)
        have hpg_10 : zRg (upd fc (0 : Int32).toNatClampNeg v) (0) 99 := zRg_upd hp_fc (by omega) (by omega)
        obtain ⟨g_10, hg_10⟩ : ∃ g : Nat → Int32, g = upd fc (0 : Int32).toNatClampNeg v := ⟨_, rfl⟩
        rw [← hg_10] at hP hD hpg_10
        have h9R := zRe (ws' := [(j0, .inr (0, [.ref z0, .ref jp, .ref jc, .int cn, .int de, .int tr, .int se, .int hu, .int sd])), (z0, .inr (6, [.ref zl, .ref zs, .int sz, .int at_, .int gp])), (jc, .inl (cI, 3, .inl g_10))]) hP hD rfl
        clear hP hD
        obtain ⟨hP, hD⟩ := h9R
        exact W.vret hx hb hr (fun t ht hW => ⟨⟨(de, se, hu, at_, gp, g_10), rfl, ⟨(show 0 ≤ de.toInt ∧ de.toInt ≤ 24 from ⟨hy2, hy3⟩), (show 0 ≤ hu.toInt ∧ hu.toInt ≤ 9 from ⟨hy4, hy5⟩), (show 0 ≤ at_.toInt ∧ at_.toInt ≤ 40 from ⟨hy8, hy9⟩), (show 1 ≤ gp.toInt ∧ gp.toInt ≤ 9 from ⟨hy10, hy11⟩), hpg_10, (show de.toInt = (if (4 : Int32).toInt = 0 then v.toInt else de.toInt) ∧ se.toInt = (if (4 : Int32).toInt = 1 then v.toInt else se.toInt) ∧ hu.toInt = (if (4 : Int32).toInt = 2 then v.toInt else hu.toInt) ∧ gp.toInt = (if (4 : Int32).toInt = 3 then v.toInt else gp.toInt) ∧ at_.toInt = (if (4 : Int32).toInt = 7 then v.toInt else at_.toInt) from by (refine ⟨?_, ?_, ?_, ?_, ?_⟩ <;> ((repeat (first | rw [if_pos (by omega)] | rw [if_neg (by omega)])) <;> first | rfl | omega))), (show ((4 : Int32).toInt < 4 ∨ 6 < (4 : Int32).toInt → g_10 = fc) ∧ (4 ≤ (4 : Int32).toInt → (4 : Int32).toInt ≤ 6 → g_10 = upd fc ((4 : Int32).toInt - 4).toNat v) from by (exact ⟨fun h => by (exfalso; omega), fun h1 h2 => by (rw [hg_10]; congr 1 <;> decide)⟩)), trivial⟩, zRet ht hP hD [0, 1, 2] (by decide) rfl⟩, hS.F ht⟩) hS.2.2 dX0_setNumber_114
  · have kc5 : (5 : Int32).toInt = 5 := by decide
    refine lv_tableIn (tgt := 94) hx hb dX0_setNumber_1 (by decide) (by decide) rfl (by decide) ?_
    refine lv_iload_n hx hb dX0_setNumber_94 rfl (lv_at hl 1 rfl) ?_
    refine lv_iconst (v := 4) hx hb dX0_setNumber_95 (by decide) ?_
    refine lv_isub hx hb dX0_setNumber_96 ?_
    refine lv_topi (fun y_11 ey_11 => ?_)
    obtain rfl : y_11 = 1 := ey_11.trans (by decide)
    refine lv_iconst (v := 0) hx hb dX0_setNumber_97 (by decide) ?_
    refine lv_iconst (v := 2) hx hb dX0_setNumber_98 (by decide) ?_
    have kc1 : (1 : Int32).toInt = 1 := by decide
    have kc0 : (0 : Int32).toInt = 0 := by decide
    have kc2 : (2 : Int32).toInt = 2 := by decide
    refine zc_SN (As := [.int 1, .int 0, .int 2]) (rest := []) ⟨hx, hb, hml, hown, hts⟩ (c_within l D cI cJ cZ cP cS po (1) (0) (2) ) ⟨(va_cnB 3 hts gX0_setNumber_X7_within_n66 rfl rfl rfl (hN.1 (RX0, 66, yX7_within) (List.mem_of_getElem? (i := 6) rfl)) (hts _ (List.mem_of_getElem? (i := 9) rfl)) dh_X7_within ⟨Nat.le_of_ble_eq_true rfl, Nat.le_of_ble_eq_true rfl⟩), (hts _ (List.mem_of_getElem? (i := 8) rfl)), trivial⟩ hK hN (hZ.kept hS) rfl hl.1 rfl (Nat.le_of_ble_eq_true rfl) dX0_setNumber_99 ⟨Nat.le_of_ble_eq_true rfl, Nat.le_of_ble_eq_true rfl⟩ (fun r_12 hr_12 => ?_)
    rcases hr_12 with ⟨rfl, g_13⟩ | ⟨rfl, g_14, g_15⟩ | ⟨rfl, g_16, g_17⟩
    · exfalso; omega
    · exfalso; omega
    · refine lv_if_eq (tgt := 114) hx hb dX0_setNumber_102 (by decide) (fun c_18 => ?_) (fun c_18 => ?_)
      · exact absurd c_18 (by decide)
      · refine lv_aload_n hx hb dX0_setNumber_105 rfl (lv_at hl 0 rfl) ?_
        refine va_get (D := D) (ci := 0) (v := .ref jc) (C := RX0) (T := TX0) (N := 9) hx hb hts hi_X0_setNumber_0 hown hK hP 0 rfl rfl 2 (by decide) (hts (.fieldLink RX0 24 "TheLiningsInIt$Jacket" "costs" "[I") (List.mem_of_getElem? (i := 7) rfl)) (fun _ h9 => h9) rfl dX0_setNumber_106 ?_
        refine lv_iload_n hx hb dX0_setNumber_109 rfl (lv_at hl 1 rfl) ?_
        refine lv_iconst (v := 4) hx hb dX0_setNumber_110 (by decide) ?_
        refine lv_isub hx hb dX0_setNumber_111 ?_
        refine lv_topi (fun y_19 ey_19 => ?_)
        obtain rfl : y_19 = 1 := ey_19.trans (by decide)
        refine lv_iload_n hx hb dX0_setNumber_112 rfl (lv_at hl 2 rfl) ?_
        refine va_iast hx hb hK hP hD hS 2 0 rfl rfl (zf_in (by decide) (by decide)) dX0_setNumber_113 (fun H locs hP hD hS => ?_)
        have hpg_20 : zRg (upd fc (1 : Int32).toNatClampNeg v) (0) 99 := zRg_upd hp_fc (by omega) (by omega)
        obtain ⟨g_20, hg_20⟩ : ∃ g : Nat → Int32, g = upd fc (1 : Int32).toNatClampNeg v := ⟨_, rfl⟩
        rw [← hg_20] at hP hD hpg_20
        have h9R := zRe (ws' := [(j0, .inr (0, [.ref z0, .ref jp, .ref jc, .int cn, .int de, .int tr, .int se, .int hu, .int sd])), (z0, .inr (6, [.ref zl, .ref zs, .int sz, .int at_, .int gp])), (jc, .inl (cI, 3, .inl g_20))]) hP hD rfl
        clear hP hD
        obtain ⟨hP, hD⟩ := h9R
        exact W.vret hx hb hr (fun t ht hW => ⟨⟨(de, se, hu, at_, gp, g_20), rfl, ⟨(show 0 ≤ de.toInt ∧ de.toInt ≤ 24 from ⟨hy2, hy3⟩), (show 0 ≤ hu.toInt ∧ hu.toInt ≤ 9 from ⟨hy4, hy5⟩), (show 0 ≤ at_.toInt ∧ at_.toInt ≤ 40 from ⟨hy8, hy9⟩), (show 1 ≤ gp.toInt ∧ gp.toInt ≤ 9 from ⟨hy10, hy11⟩), hpg_20, (show de.toInt = (if (5 : Int32).toInt = 0 then v.toInt else de.toInt) ∧ se.toInt = (if (5 : Int32).toInt = 1 then v.toInt else se.toInt) ∧ hu.toInt = (if (5 : Int32).toInt = 2 then v.toInt else hu.toInt) ∧ gp.toInt = (if (5 : Int32).toInt = 3 then v.toInt else gp.toInt) ∧ at_.toInt = (if (5 : Int32).toInt = 7 then v.toInt else at_.toInt) from by (refine ⟨?_, ?_, ?_, ?_, ?_⟩ <;> ((repeat (first | rw [if_pos (by omega)] | rw [if_neg (by omega)])) <;> first | rfl | omega))), (show ((5 : Int32).toInt < 4 ∨ 6 < (5 : Int32).toInt → g_20 = fc) ∧ (4 ≤ (5 : Int32).toInt → (5 : Int32).toInt ≤ 6 → g_20 = upd fc ((5 : Int32).toInt - 4).toNat v) from by (exact ⟨fun h => by (exfalso; omega), fun h1 h2 => by (rw [hg_20]; congr 1 <;> decide)⟩)), trivial⟩, zRet ht hP hD [0, 1, 2] (by decide) rfl⟩, hS.F ht⟩) hS.2.2 dX0_setNumber_114
  · have kc6 : (6 : Int32).toInt = 6 := by decide
    refine lv_tableIn (tgt := 94) hx hb dX0_setNumber_1 (by decide) (by decide) rfl (by decide) ?_
    refine lv_iload_n hx hb dX0_setNumber_94 rfl (lv_at hl 1 rfl) ?_
    refine lv_iconst (v := 4) hx hb dX0_setNumber_95 (by decide) ?_
    refine lv_isub hx hb dX0_setNumber_96 ?_
    refine lv_topi (fun y_21 ey_21 => ?_)
    obtain rfl : y_21 = 2 := ey_21.trans (by decide)
    refine lv_iconst (v := 0) hx hb dX0_setNumber_97 (by decide) ?_
    refine lv_iconst (v := 2) hx hb dX0_setNumber_98 (by decide) ?_
    have kc2 : (2 : Int32).toInt = 2 := by decide
    have kc0 : (0 : Int32).toInt = 0 := by decide
    refine zc_SN (As := [.int 2, .int 0, .int 2]) (rest := []) ⟨hx, hb, hml, hown, hts⟩ (c_within l D cI cJ cZ cP cS po (2) (0) (2) ) ⟨(va_cnB 3 hts gX0_setNumber_X7_within_n66 rfl rfl rfl (hN.1 (RX0, 66, yX7_within) (List.mem_of_getElem? (i := 6) rfl)) (hts _ (List.mem_of_getElem? (i := 9) rfl)) dh_X7_within ⟨Nat.le_of_ble_eq_true rfl, Nat.le_of_ble_eq_true rfl⟩), (hts _ (List.mem_of_getElem? (i := 8) rfl)), trivial⟩ hK hN (hZ.kept hS) rfl hl.1 rfl (Nat.le_of_ble_eq_true rfl) dX0_setNumber_99 ⟨Nat.le_of_ble_eq_true rfl, Nat.le_of_ble_eq_true rfl⟩ (fun r_22 hr_22 => ?_)
    rcases hr_22 with ⟨rfl, g_23⟩ | ⟨rfl, g_24, g_25⟩ | ⟨rfl, g_26, g_27⟩
    · exfalso; omega
    · exfalso; omega
    · refine lv_if_eq (tgt := 114) hx hb dX0_setNumber_102 (by decide) (fun c_28 => ?_) (fun c_28 => ?_)
      · exact absurd c_28 (by decide)
      · refine lv_aload_n hx hb dX0_setNumber_105 rfl (lv_at hl 0 rfl) ?_
        refine va_get (D := D) (ci := 0) (v := .ref jc) (C := RX0) (T := TX0) (N := 9) hx hb hts hi_X0_setNumber_0 hown hK hP 0 rfl rfl 2 (by decide) (hts (.fieldLink RX0 24 "TheLiningsInIt$Jacket" "costs" "[I") (List.mem_of_getElem? (i := 7) rfl)) (fun _ h9 => h9) rfl dX0_setNumber_106 ?_
        refine lv_iload_n hx hb dX0_setNumber_109 rfl (lv_at hl 1 rfl) ?_
        refine lv_iconst (v := 4) hx hb dX0_setNumber_110 (by decide) ?_
        refine lv_isub hx hb dX0_setNumber_111 ?_
        refine lv_topi (fun y_29 ey_29 => ?_)
        obtain rfl : y_29 = 2 := ey_29.trans (by decide)
        refine lv_iload_n hx hb dX0_setNumber_112 rfl (lv_at hl 2 rfl) ?_
        refine va_iast hx hb hK hP hD hS 2 0 rfl rfl (zf_in (by decide) (by decide)) dX0_setNumber_113 (fun H locs hP hD hS => ?_)
        have hpg_30 : zRg (upd fc (2 : Int32).toNatClampNeg v) (0) 99 := zRg_upd hp_fc (by omega) (by omega)
        obtain ⟨g_30, hg_30⟩ : ∃ g : Nat → Int32, g = upd fc (2 : Int32).toNatClampNeg v := ⟨_, rfl⟩
        rw [← hg_30] at hP hD hpg_30
        have h9R := zRe (ws' := [(j0, .inr (0, [.ref z0, .ref jp, .ref jc, .int cn, .int de, .int tr, .int se, .int hu, .int sd])), (z0, .inr (6, [.ref zl, .ref zs, .int sz, .int at_, .int gp])), (jc, .inl (cI, 3, .inl g_30))]) hP hD rfl
        clear hP hD
        obtain ⟨hP, hD⟩ := h9R
        exact W.vret hx hb hr (fun t ht hW => ⟨⟨(de, se, hu, at_, gp, g_30), rfl, ⟨(show 0 ≤ de.toInt ∧ de.toInt ≤ 24 from ⟨hy2, hy3⟩), (show 0 ≤ hu.toInt ∧ hu.toInt ≤ 9 from ⟨hy4, hy5⟩), (show 0 ≤ at_.toInt ∧ at_.toInt ≤ 40 from ⟨hy8, hy9⟩), (show 1 ≤ gp.toInt ∧ gp.toInt ≤ 9 from ⟨hy10, hy11⟩), hpg_30, (show de.toInt = (if (6 : Int32).toInt = 0 then v.toInt else de.toInt) ∧ se.toInt = (if (6 : Int32).toInt = 1 then v.toInt else se.toInt) ∧ hu.toInt = (if (6 : Int32).toInt = 2 then v.toInt else hu.toInt) ∧ gp.toInt = (if (6 : Int32).toInt = 3 then v.toInt else gp.toInt) ∧ at_.toInt = (if (6 : Int32).toInt = 7 then v.toInt else at_.toInt) from by (refine ⟨?_, ?_, ?_, ?_, ?_⟩ <;> ((repeat (first | rw [if_pos (by omega)] | rw [if_neg (by omega)])) <;> first | rfl | omega))), (show ((6 : Int32).toInt < 4 ∨ 6 < (6 : Int32).toInt → g_30 = fc) ∧ (4 ≤ (6 : Int32).toInt → (6 : Int32).toInt ≤ 6 → g_30 = upd fc ((6 : Int32).toInt - 4).toNat v) from by (exact ⟨fun h => by (exfalso; omega), fun h1 h2 => by (rw [hg_30]; congr 1 <;> decide)⟩)), trivial⟩, zRet ht hP hD [0, 1, 2] (by decide) rfl⟩, hS.F ht⟩) hS.2.2 dX0_setNumber_114
  · have kc7 : (7 : Int32).toInt = 7 := by decide
    refine lv_tableIn (tgt := 83) hx hb dX0_setNumber_1 (by decide) (by decide) rfl (by decide) ?_
    refine lv_aload_n hx hb dX0_setNumber_83 rfl (lv_at hl 0 rfl) ?_
    refine va_get (D := D) (ci := 0) (v := .ref z0) (C := RX0) (T := TX0) (N := 9) hx hb hts hi_X0_setNumber_0 hown hK hP 0 rfl rfl 0 (by decide) (hts (.fieldLink RX0 12 "TheLiningsInIt$Jacket" "zip" "LTheLiningsInIt$Zip;") (List.mem_of_getElem? (i := 4) rfl)) (fun _ h9 => h9) rfl dX0_setNumber_84 ?_
    refine lv_iload_n hx hb dX0_setNumber_87 rfl (lv_at hl 2 rfl) ?_
    refine va_put (D := D) (ci := 6) (v := .int v) (ty := .int) (C := RX6) (T := TX6) (N := 5) hx hb hts hi_X0_setNumber_6 tyX6 tyX6_ok nmX6 hown hK hP hD hS 1 rfl rfl 3 (by decide) (hts (.fieldLink RX0 63 "TheLiningsInIt$Zip" "at" "I") (List.mem_of_getElem? (i := 6) rfl)) (fun _ h9 => h9) rfl (tyX6_ok 3 (Nat.le_of_ble_eq_true rfl)) rfl rfl (Nat.le_of_ble_eq_true rfl) dX0_setNumber_88 (fun H locs hP hD hS => ?_)
    have h9R := zRe (ws' := [(j0, .inr (0, [.ref z0, .ref jp, .ref jc, .int cn, .int de, .int tr, .int se, .int hu, .int sd])), (z0, .inr (6, [.ref zl, .ref zs, .int sz, .int v, .int gp])), (jc, .inl (cI, 3, .inl fc))]) hP hD rfl
    clear hP hD
    obtain ⟨hP, hD⟩ := h9R
    refine lv_goto (tgt := 114) hx hb dX0_setNumber_91 (by decide) ?_
    exact W.vret hx hb hr (fun t ht hW => ⟨⟨(de, se, hu, v, gp, fc), rfl, ⟨(show 0 ≤ de.toInt ∧ de.toInt ≤ 24 from ⟨hy2, hy3⟩), (show 0 ≤ hu.toInt ∧ hu.toInt ≤ 9 from ⟨hy4, hy5⟩), (show 0 ≤ v.toInt ∧ v.toInt ≤ 40 from ⟨by omega, by omega⟩), (show 1 ≤ gp.toInt ∧ gp.toInt ≤ 9 from ⟨hy10, hy11⟩), hp_fc, (show de.toInt = (if (7 : Int32).toInt = 0 then v.toInt else de.toInt) ∧ se.toInt = (if (7 : Int32).toInt = 1 then v.toInt else se.toInt) ∧ hu.toInt = (if (7 : Int32).toInt = 2 then v.toInt else hu.toInt) ∧ gp.toInt = (if (7 : Int32).toInt = 3 then v.toInt else gp.toInt) ∧ v.toInt = (if (7 : Int32).toInt = 7 then v.toInt else at_.toInt) from by (refine ⟨?_, ?_, ?_, ?_, ?_⟩ <;> ((repeat (first | rw [if_pos (by omega)] | rw [if_neg (by omega)])) <;> first | rfl | omega))), (show ((7 : Int32).toInt < 4 ∨ 6 < (7 : Int32).toInt → fc = fc) ∧ (4 ≤ (7 : Int32).toInt → (7 : Int32).toInt ≤ 6 → fc = upd fc ((7 : Int32).toInt - 4).toNat v) from by (exact ⟨fun _ => rfl, fun h1 h2 => by (exfalso; omega)⟩)), trivial⟩, zRet ht hP hD [0, 1, 2] (by decide) rfl⟩, hS.F ht⟩) hS.2.2 dX0_setNumber_114
set_option maxHeartbeats 4000000 in
set_option maxRecDepth 100000 in
theorem c_F_R_tellItem (l : Launch) (D : va_G) (cI cJ cZ cP cS : ClassId) (po : zPool) (rd ri rl : Nat) (rz rc rp rf rt ru : Int32) (fi : Nat → Int32) (j0 jp jc z0 zl zs : Nat) (cn de tr se hu sd : Int32) (sz at_ gp : Int32) (fl fs : Nat → Int32) (fp : Nat → Option Nat) (kf af tf : Nat → Int32) (fc : Nat → Int32) (slot : Int32) (hy0 : 0 ≤ rz.toInt) (hy1 : rz.toInt ≤ 160) (hy2 : 0 ≤ rc.toInt) (hy3 : rc.toInt ≤ 40) (hy4 : 0 ≤ rp.toInt) (hy5 : rp.toInt ≤ 160) (hy6 : rp.toInt ≤ rz.toInt) (hy7 : (-1) ≤ rf.toInt) (hy8 : rf.toInt ≤ 160) (hy9 : 0 ≤ rt.toInt) (hy10 : rt.toInt ≤ 40) (hy11 : 0 ≤ ru.toInt) (hy12 : ru.toInt ≤ 8) (hy13 : 0 ≤ cn.toInt) (hy14 : cn.toInt ≤ 8) (hy15 : 0 ≤ de.toInt) (hy16 : de.toInt ≤ 24) (hy17 : 0 ≤ hu.toInt) (hy18 : hu.toInt ≤ 9) (hy19 : 4 ≤ sz.toInt) (hy20 : sz.toInt ≤ 40) (hy21 : 0 ≤ at_.toInt) (hy22 : at_.toInt ≤ 40) (hy23 : 1 ≤ gp.toInt) (hy24 : gp.toInt ≤ 9) (hy25 : 0 ≤ slot.toInt) (hy26 : slot.toInt ≤ 128) (hit : zIt fi slot.toInt.toNat) (hp_fl : zRg fl (0) 1) (hp_fs : zRg fs (0) 9) (hp_fc : zRg fc (0) 99) (hpz : Nat) : Met l yX3_tellItem wsX3_tellItem ({ frames := 3, cells := 1, slots := 3, locals := 58 }) (va_Pc [.ref rd, .ref j0, .int slot] (zW D (zKT cI cJ cZ cP cS) po [(rd, .inr (3, [.ref ri, .ref rl, .int rz, .int rc, .int rp, .int rf, .int rt, .int ru])), (ri, .inl (cI, 132, .inl fi)), (j0, .inr (0, [.ref z0, .ref jp, .ref jc, .int cn, .int de, .int tr, .int se, .int hu, .int sd])), (z0, .inr (6, [.ref zl, .ref zs, .int sz, .int at_, .int gp])), (zl, .inl (cZ, 40, .inl fl)), (zs, .inl (cI, 40, .inl fs)), (jp, .inl (cP, 8, .inr (.inr (.inr (.inr fp))))), (jc, .inl (cI, 3, .inl fc))] hpz)) (va_Qv (fun (u : (Int32) × (Int32) × (Int32) × (Int32) × (Int32) × (Int32) × (Nat → Int32) × (Nat → Int32) × (Nat → Int32) × (Int32) × (Nat → Option Nat) × (Nat → Int32) × (Nat → Int32) × (Nat → Int32) × (List (Nat × Int32 × Int32 × Int32))) => (0 ≤ u.1.toInt ∧ u.1.toInt ≤ 24) ∧ (0 ≤ u.2.2.1.toInt ∧ u.2.2.1.toInt ≤ 9) ∧ (4 ≤ u.2.2.2.1.toInt ∧ u.2.2.2.1.toInt ≤ 40) ∧ (0 ≤ u.2.2.2.2.1.toInt ∧ u.2.2.2.2.1.toInt ≤ 40) ∧ (1 ≤ u.2.2.2.2.2.1.toInt ∧ u.2.2.2.2.2.1.toInt ≤ 9) ∧ zRg u.2.2.2.2.2.2.1 (0) 1 ∧ zRg u.2.2.2.2.2.2.2.1 (0) 9 ∧ zRg u.2.2.2.2.2.2.2.2.1 (0) 99 ∧ (0 ≤ u.2.2.2.2.2.2.2.2.2.1.toInt ∧ u.2.2.2.2.2.2.2.2.2.1.toInt ≤ 8) ∧ (∀ z ∈ u.2.2.2.2.2.2.2.2.2.2.2.2.2.2, zPr z.2.1 z.2.2.1 z.2.2.2) ∧ (zExt u.2.2.2.2.2.2.2.2.2.2.2.2.2.2 fp cn kf af tf u.2.2.2.2.2.2.2.2.2.2.1 u.2.2.2.2.2.2.2.2.2.1 u.2.2.2.2.2.2.2.2.2.2.2.1 u.2.2.2.2.2.2.2.2.2.2.2.2.1 u.2.2.2.2.2.2.2.2.2.2.2.2.2.1) ∧ (((fi slot.toInt.toNat).toInt = 3 → cn.toInt < 8 → u.2.2.2.2.2.2.2.2.2.1.toInt = cn.toInt + 1) ∧ ((fi slot.toInt.toNat).toInt ≠ 3 → u.2.2.2.2.2.2.2.2.2.1.toInt = cn.toInt) ∧ ((fi slot.toInt.toNat).toInt = 0 → u.2.2.2.1.toInt = (fi (slot.toInt.toNat + 1)).toInt) ∧ ((fi slot.toInt.toNat).toInt ≠ 0 → u.2.2.2.1.toInt = sz.toInt)) ∧ ((∀ j : Nat, j < 40 → u.2.2.2.2.2.2.1 j = zEl (zDS fi slot.toInt.toNat) fl j)) ∧ ((∀ j : Nat, j < 40 → u.2.2.2.2.2.2.2.1 j = zEs (zDS fi slot.toInt.toNat) fs j)) ∧ ((((fi slot.toInt.toNat).toInt = 3 → cn.toInt < 8) → u.2.2.2.2.2.2.2.2.2.2.2.1 = zEk (zDS fi slot.toInt.toNat) cn.toInt kf ∧ u.2.2.2.2.2.2.2.2.2.2.2.2.1 = zEa (zDS fi slot.toInt.toNat) cn.toInt af ∧ u.2.2.2.2.2.2.2.2.2.2.2.2.2.1 = zEt (zDS fi slot.toInt.toNat) cn.toInt tf)) ∧ (u.2.2.2.2.2.2.2.2.1 = zEc (zDS fi slot.toInt.toNat) fc) ∧ (u.1.toInt = zEnu 4 (zDS fi slot.toInt.toNat) de.toInt ∧ u.2.1.toInt = zEnu 5 (zDS fi slot.toInt.toNat) se.toInt ∧ u.2.2.1.toInt = zEnu 6 (zDS fi slot.toInt.toNat) hu.toInt ∧ u.2.2.2.2.2.1.toInt = zEnu 7 (zDS fi slot.toInt.toNat) gp.toInt ∧ u.2.2.2.2.1.toInt = zEat (zDS fi slot.toInt.toNat) at_.toInt) ∧ (True)) (zB D [(rd, .inr (3, [.ref ri, .ref rl, .int rz, .int rc, .int rp, .int rf, .int rt, .int ru])), (ri, .inl (cI, 132, .inl fi)), (j0, .inr (0, [.ref z0, .ref jp, .ref jc, .int cn, .int de, .int tr, .int se, .int hu, .int sd])), (z0, .inr (6, [.ref zl, .ref zs, .int sz, .int at_, .int gp])), (zl, .inl (cZ, 40, .inl fl)), (zs, .inl (cI, 40, .inl fs)), (jp, .inl (cP, 8, .inr (.inr (.inr (.inr fp))))), (jc, .inl (cI, 3, .inl fc))] hpz (fun (u : (Int32) × (Int32) × (Int32) × (Int32) × (Int32) × (Int32) × (Nat → Int32) × (Nat → Int32) × (Nat → Int32) × (Int32) × (Nat → Option Nat) × (Nat → Int32) × (Nat → Int32) × (Nat → Int32) × (List (Nat × Int32 × Int32 × Int32))) => ([(rd, .inr (3, [.ref ri, .ref rl, .int rz, .int rc, .int rp, .int rf, .int rt, .int ru])), (ri, .inl (cI, 132, .inl fi)), (j0, .inr (0, [.ref z0, .ref jp, .ref jc, .int u.2.2.2.2.2.2.2.2.2.1, .int u.1, .int tr, .int u.2.1, .int u.2.2.1, .int sd])), (z0, .inr (6, [.ref zl, .ref zs, .int u.2.2.2.1, .int u.2.2.2.2.1, .int u.2.2.2.2.2.1])), (zl, .inl (cZ, 40, .inl u.2.2.2.2.2.2.1)), (zs, .inl (cI, 40, .inl u.2.2.2.2.2.2.2.1)), (jp, .inl (cP, 8, .inr (.inr (.inr (.inr u.2.2.2.2.2.2.2.2.2.2.1))))), (jc, .inl (cI, 3, .inl u.2.2.2.2.2.2.2.2.1))] ++ u.2.2.2.2.2.2.2.2.2.2.2.2.2.2.map zPo))) (va_A [(rd, .inr (3, [.ref ri, .ref rl, .int rz, .int rc, .int rp, .int rf, .int rt, .int ru])), (ri, .inl (cI, 132, .inl fi)), (j0, .inr (0, [.ref z0, .ref jp, .ref jc, .int cn, .int de, .int tr, .int se, .int hu, .int sd])), (z0, .inr (6, [.ref zl, .ref zs, .int sz, .int at_, .int gp])), (zl, .inl (cZ, 40, .inl fl)), (zs, .inl (cI, 40, .inl fs)), (jp, .inl (cP, 8, .inr (.inr (.inr (.inr fp))))), (jc, .inl (cI, 3, .inl fc))] hpz)) 1 3 (va_A [(rd, .inr (3, [.ref ri, .ref rl, .int rz, .int rc, .int rp, .int rf, .int rt, .int ru])), (ri, .inl (cI, 132, .inl fi)), (j0, .inr (0, [.ref z0, .ref jp, .ref jc, .int cn, .int de, .int tr, .int se, .int hu, .int sd])), (z0, .inr (6, [.ref zl, .ref zs, .int sz, .int at_, .int gp])), (zl, .inl (cZ, 40, .inl fl)), (zs, .inl (cI, 40, .inl fs)), (jp, .inl (cP, 8, .inr (.inr (.inr (.inr fp))))), (jc, .inl (cI, 3, .inl fc))] hpz) := by
  refine Met.ofW (cc := cX3_tellItem) (maxL := 5) (ret := none) (by decide) rfl ?_
  intro p e s m args below meth c s₁ B hml hv
  obtain ⟨rfl, hsz, hP, hK, hD0, hN, hZ⟩ := hv
  have hx := B.exec
  have hb := B.bytes
  have hr := B.returns
  have hts := atoms_spec (ws := wsX3_tellItem) B.pre
  have hown : s.vm.findClass RX3 = some m.cls := findClass_of_methodNamed B.named
  have hlocks := B.notSynchronized
  subst hsz
  have hD := hD0.self (sz := s.heap.size)
  have hA := zA_of hD
  have hl := lv_entry ([.ref rd, .ref j0, .int slot]) (n := 5) (Nat.le_of_ble_eq_true rfl)
  rw [lg_entry_eq]
  generalize (lg_sl ([.ref rd, .ref j0, .int slot]) ++ List.replicate (5 - (lg_sl ([.ref rd, .ref j0, .int slot])).length) Slot.unset).toArray = ls at hl ⊢
  replace hl : lv_has ls 5 [(0, .ref rd), (1, .ref j0), (2, .int slot)] := hl
  refine zw_begin hP hD (fun H locs hP1 hS => ?_)
  clear hP
  have hP := hP1
  clear hP1
  refine lv_aload_n hx hb dX3_tellItem_0 rfl (lv_at hl 0 rfl) ?_
  refine va_get (D := D) (ci := 3) (v := .ref ri) (C := RX3) (T := TX3) (N := 8) hx hb hts hi_X3_tellItem_3 hown hK hP 0 rfl rfl 0 (by decide) (hts (.fieldLink RX3 11 "TheLiningsInIt$Reader" "items" "[I") (List.mem_of_getElem? (i := 1) rfl)) (fun _ h9 => h9) rfl dX3_tellItem_1 ?_
  refine lv_iload_n hx hb dX3_tellItem_4 rfl (lv_at hl 2 rfl) ?_
  refine lv_iconst (v := 1) hx hb dX3_tellItem_5 (by decide) ?_
  refine lv_iadd hx hb dX3_tellItem_6 ?_
  refine lv_topi (fun x_1 ex_1 => ?_)
  have qx_1 : x_1.toInt = slot.toInt + 1 := by rw [ex_1]; exact zf_add rfl (by decide) (by omega) (by omega)
  refine va_iald hx hb hK hP 1 0 rfl rfl (zf_in (by omega) (by omega)) dX3_tellItem_7 ?_
  refine lv_topi (fun x_2 ex_2 => ?_)
  refine lv_istore_n (lv' := [(3, .int x_2), (0, .ref rd), (1, .ref j0), (2, .int slot)]) hx hb dX3_tellItem_8 rfl hl (by decide) rfl (fun ls hl => ?_)
  refine lv_aload_n hx hb dX3_tellItem_9 rfl (lv_at hl 1 rfl) ?_
  refine va_get (D := D) (ci := 3) (v := .ref ri) (C := RX3) (T := TX3) (N := 8) hx hb hts hi_X3_tellItem_3 hown hK hP 0 rfl rfl 0 (by decide) (hts (.fieldLink RX3 11 "TheLiningsInIt$Reader" "items" "[I") (List.mem_of_getElem? (i := 1) rfl)) (fun _ h9 => h9) rfl dX3_tellItem_10 ?_
  refine lv_iload_n hx hb dX3_tellItem_13 rfl (lv_at hl 3 rfl) ?_
  refine lv_iconst (v := 2) hx hb dX3_tellItem_14 (by decide) ?_
  refine lv_iadd hx hb dX3_tellItem_15 ?_
  refine lv_topi (fun x_3 ex_3 => ?_)
  have qx_3 : x_3.toInt = slot.toInt + 2 := by rw [ex_3]; exact zf_add rfl (by decide) (by omega) (by omega)
  refine va_iald hx hb hK hP 1 0 rfl rfl (zf_in (by omega) (by omega)) dX3_tellItem_16 ?_
  refine lv_topi (fun x_4 ex_4 => ?_)
  refine lv_istore (lv' := [(4, .int x_4), (3, .int x_2), (0, .ref rd), (1, .ref j0), (2, .int slot)]) hx hb dX3_tellItem_17 hl (by decide) rfl (fun ls hl => ?_)
  refine lv_aload_n hx hb dX3_tellItem_19 rfl (lv_at hl 2 rfl) ?_
  refine va_get (D := D) (ci := 3) (v := .ref ri) (C := RX3) (T := TX3) (N := 8) hx hb hts hi_X3_tellItem_3 hown hK hP 0 rfl rfl 0 (by decide) (hts (.fieldLink RX3 11 "TheLiningsInIt$Reader" "items" "[I") (List.mem_of_getElem? (i := 1) rfl)) (fun _ h9 => h9) rfl dX3_tellItem_20 ?_
  refine lv_iload_n hx hb dX3_tellItem_23 rfl (lv_at hl 4 rfl) ?_
  refine va_iald hx hb hK hP 1 0 rfl rfl (zf_in (by omega) (by omega)) dX3_tellItem_24 ?_
  refine lv_topi (fun x_5 ex_5 => ?_)
  have e0 : x_5 = fi slot.toInt.toNat := ex_5
  have e1 : x_2 = fi (slot.toInt.toNat + 1) := by rw [ex_2]; congr 1; (show x_1.toInt.toNat = _; omega)
  have e2 : x_4 = fi (slot.toInt.toNat + 2) := by rw [ex_4]; congr 1; (show x_3.toInt.toNat = _; omega)
  have hz9 := hit
  unfold zIt at hz9
  rw [← e0, ← e1, ← e2] at hz9
  unfold zItv at hz9
  have hsp : x_5 = 0 ∨ x_5 = 1 ∨ x_5 = 2 ∨ x_5 = 3 ∨ x_5 = 4 ∨ x_5 = 5 ∨ x_5 = 6 ∨ x_5 = 7 ∨ x_5 = 8 ∨ x_5 = 9 := by
    rcases (show x_5.toInt = 0 ∨ x_5.toInt = 1 ∨ x_5.toInt = 2 ∨ x_5.toInt = 3 ∨ x_5.toInt = 4 ∨ x_5.toInt = 5 ∨ x_5.toInt = 6 ∨ x_5.toInt = 7 ∨ x_5.toInt = 8 ∨ x_5.toInt = 9 by omega) with h9 | h9 | h9 | h9 | h9 | h9 | h9 | h9 | h9 | h9
    · refine Or.inl ?_; exact zf_val h9 (by decide)
    · refine Or.inr (Or.inl ?_); exact zf_val h9 (by decide)
    · refine Or.inr (Or.inr (Or.inl ?_)); exact zf_val h9 (by decide)
    · refine Or.inr (Or.inr (Or.inr (Or.inl ?_))); exact zf_val h9 (by decide)
    · refine Or.inr (Or.inr (Or.inr (Or.inr (Or.inl ?_)))); exact zf_val h9 (by decide)
    · refine Or.inr (Or.inr (Or.inr (Or.inr (Or.inr (Or.inl ?_))))); exact zf_val h9 (by decide)
    · refine Or.inr (Or.inr (Or.inr (Or.inr (Or.inr (Or.inr (Or.inl ?_)))))); exact zf_val h9 (by decide)
    · refine Or.inr (Or.inr (Or.inr (Or.inr (Or.inr (Or.inr (Or.inr (Or.inl ?_))))))); exact zf_val h9 (by decide)
    · refine Or.inr (Or.inr (Or.inr (Or.inr (Or.inr (Or.inr (Or.inr (Or.inr (Or.inl ?_)))))))); exact zf_val h9 (by decide)
    · refine Or.inr (Or.inr (Or.inr (Or.inr (Or.inr (Or.inr (Or.inr (Or.inr (Or.inr (?_))))))))); exact zf_val h9 (by decide)
  rcases hsp with rfl | rfl | rfl | rfl | rfl | rfl | rfl | rfl | rfl | rfl
  · have kc0 : (0 : Int32).toInt = 0 := by decide
    refine lv_tableIn (tgt := 80) hx hb dX3_tellItem_25 (by decide) (by decide) rfl (by decide) ?_
    refine lv_aload_n hx hb dX3_tellItem_80 rfl (lv_at hl 3 rfl) ?_
    refine va_get (D := D) (ci := 0) (v := .ref z0) (C := RX0) (T := TX0) (N := 9) hx hb hts hi_X3_tellItem_0 hown hK hP 2 rfl rfl 0 (by decide) (hts (.fieldLink RX3 136 "TheLiningsInIt$Jacket" "zip" "LTheLiningsInIt$Zip;") (List.mem_of_getElem? (i := 2) rfl)) (fun _ h9 => h9) rfl dX3_tellItem_81 ?_
    refine lv_iload_n hx hb dX3_tellItem_84 rfl (lv_at hl 1 rfl) ?_
    skip
    refine zw_Vv (As := [.int x_2]) (rest := []) (wr := [(rd, .inr (3, [.ref ri, .ref rl, .int rz, .int rc, .int rp, .int rf, .int rt, .int ru])), (ri, .inl (cI, 132, .inl fi)), (j0, .inr (0, [.ref z0, .ref jp, .ref jc, .int cn, .int de, .int tr, .int se, .int hu, .int sd])), (jp, .inl (cP, 8, .inr (.inr (.inr (.inr fp))))), (jc, .inl (cI, 3, .inl fc))]) ⟨hx, hb, hml, hown, hts⟩ (c_F_Zip_renew l D cI cJ cZ cP cS po z0 zl zs (sz) (at_) (gp) fl fs (x_2) hy19 hy20 hy21 hy22 hy23 hy24 (by omega) (by omega) hp_fl hp_fs H.size) (cwV 1 hts gX3_tellItem_X6_renew rfl rfl rfl ⟨rfl, dh_X6_renew⟩ ⟨Nat.le_of_ble_eq_true rfl, Nat.le_of_ble_eq_true rfl⟩) hK hN (hZ.kept hS) hP hD hS hA [3, 4, 5] [0, 1, 2, 6, 7] rfl rfl (by decide) (by decide) (by decide) (va_recv (q := (RX6, TX6, 5)) hK hP (ci := 6) (q0 := 3) rfl rfl) rfl hl.1 rfl (Nat.le_of_ble_eq_true rfl) dX3_tellItem_85 ⟨Nat.le_of_ble_eq_true rfl, Nat.le_of_ble_eq_true rfl⟩ (fun u_7 H locs hr_6 hP hD hS => ?_)
    obtain ⟨q_8, q_9, q_10, q_11⟩ := u_7
    try dsimp only at hr_6
    obtain ⟨hbq_8, hbq_9, hpq_10, hpq_11, hsr_6_0, hsr_6_1, hsr_6_2, hsr_6_3, hr_6⟩ := hr_6
    have h9R := zRe (ws' := [(rd, .inr (3, [.ref ri, .ref rl, .int rz, .int rc, .int rp, .int rf, .int rt, .int ru])), (ri, .inl (cI, 132, .inl fi)), (j0, .inr (0, [.ref z0, .ref jp, .ref jc, .int cn, .int de, .int tr, .int se, .int hu, .int sd])), (jp, .inl (cP, 8, .inr (.inr (.inr (.inr fp))))), (jc, .inl (cI, 3, .inl fc)), (z0, .inr (6, [.ref zl, .ref zs, .int q_8, .int q_9, .int gp])), (zl, .inl (cZ, 40, .inl q_10)), (zs, .inl (cI, 40, .inl q_11))]) hP hD rfl
    clear hP hD
    obtain ⟨hP, hD⟩ := h9R
    refine lv_goto (tgt := 172) hx hb dX3_tellItem_88 (by decide) ?_
    refine W.widen (k := 1) (n := 3) (Nat.le_of_ble_eq_true rfl) (Nat.le_of_ble_eq_true rfl) ?_
    exact W.vret hx hb hr (fun t ht hW => ⟨⟨(de, se, hu, q_8, q_9, gp, q_10, q_11, fc, cn, fp, kf, af, tf, []), rfl, ⟨(show 0 ≤ de.toInt ∧ de.toInt ≤ 24 from ⟨hy15, hy16⟩), (show 0 ≤ hu.toInt ∧ hu.toInt ≤ 9 from ⟨hy17, hy18⟩), (show 4 ≤ q_8.toInt ∧ q_8.toInt ≤ 40 from hbq_8), (show 0 ≤ q_9.toInt ∧ q_9.toInt ≤ 40 from hbq_9), (show 1 ≤ gp.toInt ∧ gp.toInt ≤ 9 from ⟨hy23, hy24⟩), hpq_10, hpq_11, hp_fc, (show 0 ≤ cn.toInt ∧ cn.toInt ≤ 8 from ⟨hy13, hy14⟩), (by intro z hz; simp at hz), (show zExt [] fp cn kf af tf fp cn kf af tf from by first | exact zExt.refl | assumption), (show ((fi slot.toInt.toNat).toInt = 3 → cn.toInt < 8 → cn.toInt = cn.toInt + 1) ∧ ((fi slot.toInt.toNat).toInt ≠ 3 → cn.toInt = cn.toInt) ∧ ((fi slot.toInt.toNat).toInt = 0 → q_8.toInt = (fi (slot.toInt.toNat + 1)).toInt) ∧ ((fi slot.toInt.toNat).toInt ≠ 0 → q_8.toInt = sz.toInt) from by (rw [← e0, ← e1]; refine ⟨?_, ?_, ?_, ?_⟩ <;> (intros; first | rfl | omega | (exfalso; omega) | (simp_all; done)))), (show (∀ j : Nat, j < 40 → q_10 j = zEl (zDS fi slot.toInt.toNat) fl j) from by (intro j hj; unfold zEl zDS; dsimp only; rw [← e0]; rw [if_pos (by omega)]; exact hsr_6_1 j hj)), (show (∀ j : Nat, j < 40 → q_11 j = zEs (zDS fi slot.toInt.toNat) fs j) from by (intro j hj; unfold zEs zDS; dsimp only; rw [← e0]; rw [if_pos (by omega)]; exact hsr_6_2 j hj)), (show (((fi slot.toInt.toNat).toInt = 3 → cn.toInt < 8) → kf = zEk (zDS fi slot.toInt.toNat) cn.toInt kf ∧ af = zEa (zDS fi slot.toInt.toNat) cn.toInt af ∧ tf = zEt (zDS fi slot.toInt.toNat) cn.toInt tf) from by (intro _; unfold zEk zEa zEt zDS; dsimp only; rw [← e0, if_neg (by omega), if_neg (by omega), if_neg (by omega)]; exact ⟨rfl, rfl, rfl⟩)), (show fc = zEc (zDS fi slot.toInt.toNat) fc from by (unfold zEc zDS; dsimp only; rw [← e0, if_neg (by omega)])), (show de.toInt = zEnu 4 (zDS fi slot.toInt.toNat) de.toInt ∧ se.toInt = zEnu 5 (zDS fi slot.toInt.toNat) se.toInt ∧ hu.toInt = zEnu 6 (zDS fi slot.toInt.toNat) hu.toInt ∧ gp.toInt = zEnu 7 (zDS fi slot.toInt.toNat) gp.toInt ∧ q_9.toInt = zEat (zDS fi slot.toInt.toNat) at_.toInt from by (have z := hsr_6_3; unfold zEnu zEat zDS; dsimp only; rw [← e0, ← e1]; refine ⟨?_, ?_, ?_, ?_, ?_⟩ <;> ((repeat (first | rw [if_pos (by omega)] | rw [if_neg (by omega)])) <;> first | rfl | omega))), trivial⟩, zRet ht hP hD [0, 1, 2, 5, 6, 7, 3, 4] (by decide) rfl⟩, hS.F ht⟩) hS.2.2 dX3_tellItem_172
  · have kc1 : (1 : Int32).toInt = 1 := by decide
    refine lv_tableIn (tgt := 91) hx hb dX3_tellItem_25 (by decide) (by decide) rfl (by decide) ?_
    refine lv_aload_n hx hb dX3_tellItem_91 rfl (lv_at hl 3 rfl) ?_
    refine va_get (D := D) (ci := 0) (v := .ref z0) (C := RX0) (T := TX0) (N := 9) hx hb hts hi_X3_tellItem_0 hown hK hP 2 rfl rfl 0 (by decide) (hts (.fieldLink RX3 136 "TheLiningsInIt$Jacket" "zip" "LTheLiningsInIt$Zip;") (List.mem_of_getElem? (i := 2) rfl)) (fun _ h9 => h9) rfl dX3_tellItem_92 ?_
    refine va_get (D := D) (ci := 6) (v := .ref zl) (C := RX6) (T := TX6) (N := 5) hx hb hts hi_X3_tellItem_6 hown hK hP 3 rfl rfl 0 (by decide) (hts (.fieldLink RX3 147 "TheLiningsInIt$Zip" "lacking" "[Z") (List.mem_of_getElem? (i := 3) rfl)) (fun _ h9 => h9) rfl dX3_tellItem_95 ?_
    refine lv_iload_n hx hb dX3_tellItem_98 rfl (lv_at hl 1 rfl) ?_
    refine lv_iconst (v := 1) hx hb dX3_tellItem_99 (by decide) ?_
    refine va_zast hx hb hK hP hD hS 4 2 rfl rfl (zf_in (by omega) (by omega)) dX3_tellItem_100 (fun H locs hP hD hS => ?_)
    rw [zNarZ (by decide) (by decide)] at hP hD
    have hpg_12 : zRg (upd fl x_2.toNatClampNeg 1) (0) 1 := zRg_upd hp_fl (by decide) (by decide)
    obtain ⟨g_12, hg_12⟩ : ∃ g : Nat → Int32, g = upd fl x_2.toNatClampNeg 1 := ⟨_, rfl⟩
    rw [← hg_12] at hP hD hpg_12
    have h9R := zRe (ws' := [(rd, .inr (3, [.ref ri, .ref rl, .int rz, .int rc, .int rp, .int rf, .int rt, .int ru])), (ri, .inl (cI, 132, .inl fi)), (j0, .inr (0, [.ref z0, .ref jp, .ref jc, .int cn, .int de, .int tr, .int se, .int hu, .int sd])), (z0, .inr (6, [.ref zl, .ref zs, .int sz, .int at_, .int gp])), (zl, .inl (cZ, 40, .inl g_12)), (zs, .inl (cI, 40, .inl fs)), (jp, .inl (cP, 8, .inr (.inr (.inr (.inr fp))))), (jc, .inl (cI, 3, .inl fc))]) hP hD rfl
    clear hP hD
    obtain ⟨hP, hD⟩ := h9R
    refine lv_goto (tgt := 172) hx hb dX3_tellItem_101 (by decide) ?_
    refine W.widen (k := 1) (n := 3) (Nat.le_of_ble_eq_true rfl) (Nat.le_of_ble_eq_true rfl) ?_
    exact W.vret hx hb hr (fun t ht hW => ⟨⟨(de, se, hu, sz, at_, gp, g_12, fs, fc, cn, fp, kf, af, tf, []), rfl, ⟨(show 0 ≤ de.toInt ∧ de.toInt ≤ 24 from ⟨hy15, hy16⟩), (show 0 ≤ hu.toInt ∧ hu.toInt ≤ 9 from ⟨hy17, hy18⟩), (show 4 ≤ sz.toInt ∧ sz.toInt ≤ 40 from ⟨hy19, hy20⟩), (show 0 ≤ at_.toInt ∧ at_.toInt ≤ 40 from ⟨hy21, hy22⟩), (show 1 ≤ gp.toInt ∧ gp.toInt ≤ 9 from ⟨hy23, hy24⟩), hpg_12, hp_fs, hp_fc, (show 0 ≤ cn.toInt ∧ cn.toInt ≤ 8 from ⟨hy13, hy14⟩), (by intro z hz; simp at hz), (show zExt [] fp cn kf af tf fp cn kf af tf from by first | exact zExt.refl | assumption), (show ((fi slot.toInt.toNat).toInt = 3 → cn.toInt < 8 → cn.toInt = cn.toInt + 1) ∧ ((fi slot.toInt.toNat).toInt ≠ 3 → cn.toInt = cn.toInt) ∧ ((fi slot.toInt.toNat).toInt = 0 → sz.toInt = (fi (slot.toInt.toNat + 1)).toInt) ∧ ((fi slot.toInt.toNat).toInt ≠ 0 → sz.toInt = sz.toInt) from by (rw [← e0, ← e1]; refine ⟨?_, ?_, ?_, ?_⟩ <;> (intros; first | rfl | omega | (exfalso; omega) | (simp_all; done)))), (show (∀ j : Nat, j < 40 → g_12 j = zEl (zDS fi slot.toInt.toNat) fl j) from by (intro j hj; unfold zEl zDS; dsimp only; rw [← e0]; rw [if_neg (by omega), if_pos (by omega), ← e1, hg_12]; rfl)), (show (∀ j : Nat, j < 40 → fs j = zEs (zDS fi slot.toInt.toNat) fs j) from by (intro j hj; unfold zEs zDS; dsimp only; rw [← e0]; rw [if_neg (by omega), if_neg (by omega)])), (show (((fi slot.toInt.toNat).toInt = 3 → cn.toInt < 8) → kf = zEk (zDS fi slot.toInt.toNat) cn.toInt kf ∧ af = zEa (zDS fi slot.toInt.toNat) cn.toInt af ∧ tf = zEt (zDS fi slot.toInt.toNat) cn.toInt tf) from by (intro _; unfold zEk zEa zEt zDS; dsimp only; rw [← e0, if_neg (by omega), if_neg (by omega), if_neg (by omega)]; exact ⟨rfl, rfl, rfl⟩)), (show fc = zEc (zDS fi slot.toInt.toNat) fc from by (unfold zEc zDS; dsimp only; rw [← e0, if_neg (by omega)])), (show de.toInt = zEnu 4 (zDS fi slot.toInt.toNat) de.toInt ∧ se.toInt = zEnu 5 (zDS fi slot.toInt.toNat) se.toInt ∧ hu.toInt = zEnu 6 (zDS fi slot.toInt.toNat) hu.toInt ∧ gp.toInt = zEnu 7 (zDS fi slot.toInt.toNat) gp.toInt ∧ at_.toInt = zEat (zDS fi slot.toInt.toNat) at_.toInt from by (unfold zEnu zEat zDS; dsimp only; rw [← e0, ← e1]; refine ⟨?_, ?_, ?_, ?_, ?_⟩ <;> ((repeat (first | rw [if_pos (by omega)] | rw [if_neg (by omega)])) <;> first | rfl | omega))), trivial⟩, zRet ht hP hD [0, 1, 2, 3, 4, 5, 6, 7] (by decide) rfl⟩, hS.F ht⟩) hS.2.2 dX3_tellItem_172
  · have kc2 : (2 : Int32).toInt = 2 := by decide
    refine lv_tableIn (tgt := 104) hx hb dX3_tellItem_25 (by decide) (by decide) rfl (by decide) ?_
    refine lv_aload_n hx hb dX3_tellItem_104 rfl (lv_at hl 3 rfl) ?_
    refine va_get (D := D) (ci := 0) (v := .ref z0) (C := RX0) (T := TX0) (N := 9) hx hb hts hi_X3_tellItem_0 hown hK hP 2 rfl rfl 0 (by decide) (hts (.fieldLink RX3 136 "TheLiningsInIt$Jacket" "zip" "LTheLiningsInIt$Zip;") (List.mem_of_getElem? (i := 2) rfl)) (fun _ h9 => h9) rfl dX3_tellItem_105 ?_
    refine va_get (D := D) (ci := 6) (v := .ref zs) (C := RX6) (T := TX6) (N := 5) hx hb hts hi_X3_tellItem_6 hown hK hP 3 rfl rfl 1 (by decide) (hts (.fieldLink RX3 151 "TheLiningsInIt$Zip" "slacks" "[I") (List.mem_of_getElem? (i := 4) rfl)) (fun _ h9 => h9) rfl dX3_tellItem_108 ?_
    refine lv_iload_n hx hb dX3_tellItem_111 rfl (lv_at hl 1 rfl) ?_
    refine lv_iload hx hb dX3_tellItem_112 (lv_at hl 0 rfl) ?_
    refine va_iast hx hb hK hP hD hS 5 0 rfl rfl (zf_in (by omega) (by omega)) dX3_tellItem_114 (fun H locs hP hD hS => ?_)
    have hpg_13 : zRg (upd fs x_2.toNatClampNeg x_4) (0) 9 := zRg_upd hp_fs (by omega) (by omega)
    obtain ⟨g_13, hg_13⟩ : ∃ g : Nat → Int32, g = upd fs x_2.toNatClampNeg x_4 := ⟨_, rfl⟩
    rw [← hg_13] at hP hD hpg_13
    have h9R := zRe (ws' := [(rd, .inr (3, [.ref ri, .ref rl, .int rz, .int rc, .int rp, .int rf, .int rt, .int ru])), (ri, .inl (cI, 132, .inl fi)), (j0, .inr (0, [.ref z0, .ref jp, .ref jc, .int cn, .int de, .int tr, .int se, .int hu, .int sd])), (z0, .inr (6, [.ref zl, .ref zs, .int sz, .int at_, .int gp])), (zl, .inl (cZ, 40, .inl fl)), (zs, .inl (cI, 40, .inl g_13)), (jp, .inl (cP, 8, .inr (.inr (.inr (.inr fp))))), (jc, .inl (cI, 3, .inl fc))]) hP hD rfl
    clear hP hD
    obtain ⟨hP, hD⟩ := h9R
    refine lv_goto (tgt := 172) hx hb dX3_tellItem_115 (by decide) ?_
    refine W.widen (k := 1) (n := 3) (Nat.le_of_ble_eq_true rfl) (Nat.le_of_ble_eq_true rfl) ?_
    exact W.vret hx hb hr (fun t ht hW => ⟨⟨(de, se, hu, sz, at_, gp, fl, g_13, fc, cn, fp, kf, af, tf, []), rfl, ⟨(show 0 ≤ de.toInt ∧ de.toInt ≤ 24 from ⟨hy15, hy16⟩), (show 0 ≤ hu.toInt ∧ hu.toInt ≤ 9 from ⟨hy17, hy18⟩), (show 4 ≤ sz.toInt ∧ sz.toInt ≤ 40 from ⟨hy19, hy20⟩), (show 0 ≤ at_.toInt ∧ at_.toInt ≤ 40 from ⟨hy21, hy22⟩), (show 1 ≤ gp.toInt ∧ gp.toInt ≤ 9 from ⟨hy23, hy24⟩), hp_fl, hpg_13, hp_fc, (show 0 ≤ cn.toInt ∧ cn.toInt ≤ 8 from ⟨hy13, hy14⟩), (by intro z hz; simp at hz), (show zExt [] fp cn kf af tf fp cn kf af tf from by first | exact zExt.refl | assumption), (show ((fi slot.toInt.toNat).toInt = 3 → cn.toInt < 8 → cn.toInt = cn.toInt + 1) ∧ ((fi slot.toInt.toNat).toInt ≠ 3 → cn.toInt = cn.toInt) ∧ ((fi slot.toInt.toNat).toInt = 0 → sz.toInt = (fi (slot.toInt.toNat + 1)).toInt) ∧ ((fi slot.toInt.toNat).toInt ≠ 0 → sz.toInt = sz.toInt) from by (rw [← e0, ← e1]; refine ⟨?_, ?_, ?_, ?_⟩ <;> (intros; first | rfl | omega | (exfalso; omega) | (simp_all; done)))), (show (∀ j : Nat, j < 40 → fl j = zEl (zDS fi slot.toInt.toNat) fl j) from by (intro j hj; unfold zEl zDS; dsimp only; rw [← e0]; rw [if_neg (by omega), if_neg (by omega)])), (show (∀ j : Nat, j < 40 → g_13 j = zEs (zDS fi slot.toInt.toNat) fs j) from by (intro j hj; unfold zEs zDS; dsimp only; rw [← e0]; rw [if_neg (by omega), if_pos (by omega), ← e1, ← e2, Int32.ofInt_toInt, hg_13]; rfl)), (show (((fi slot.toInt.toNat).toInt = 3 → cn.toInt < 8) → kf = zEk (zDS fi slot.toInt.toNat) cn.toInt kf ∧ af = zEa (zDS fi slot.toInt.toNat) cn.toInt af ∧ tf = zEt (zDS fi slot.toInt.toNat) cn.toInt tf) from by (intro _; unfold zEk zEa zEt zDS; dsimp only; rw [← e0, if_neg (by omega), if_neg (by omega), if_neg (by omega)]; exact ⟨rfl, rfl, rfl⟩)), (show fc = zEc (zDS fi slot.toInt.toNat) fc from by (unfold zEc zDS; dsimp only; rw [← e0, if_neg (by omega)])), (show de.toInt = zEnu 4 (zDS fi slot.toInt.toNat) de.toInt ∧ se.toInt = zEnu 5 (zDS fi slot.toInt.toNat) se.toInt ∧ hu.toInt = zEnu 6 (zDS fi slot.toInt.toNat) hu.toInt ∧ gp.toInt = zEnu 7 (zDS fi slot.toInt.toNat) gp.toInt ∧ at_.toInt = zEat (zDS fi slot.toInt.toNat) at_.toInt from by (unfold zEnu zEat zDS; dsimp only; rw [← e0, ← e1]; refine ⟨?_, ?_, ?_, ?_, ?_⟩ <;> ((repeat (first | rw [if_pos (by omega)] | rw [if_neg (by omega)])) <;> first | rfl | omega))), trivial⟩, zRet ht hP hD [0, 1, 2, 3, 4, 5, 6, 7] (by decide) rfl⟩, hS.F ht⟩) hS.2.2 dX3_tellItem_172
  · have kc3 : (3 : Int32).toInt = 3 := by decide
    refine lv_tableIn (tgt := 118) hx hb dX3_tellItem_25 (by decide) (by decide) rfl (by decide) ?_
    refine lv_aload_n hx hb dX3_tellItem_118 rfl (lv_at hl 3 rfl) ?_
    refine lv_iload_n hx hb dX3_tellItem_119 rfl (lv_at hl 1 rfl) ?_
    refine lv_iload hx hb dX3_tellItem_120 (lv_at hl 0 rfl) ?_
    refine lv_aload_n hx hb dX3_tellItem_122 rfl (lv_at hl 2 rfl) ?_
    refine va_get (D := D) (ci := 3) (v := .ref ri) (C := RX3) (T := TX3) (N := 8) hx hb hts hi_X3_tellItem_3 hown hK hP 0 rfl rfl 0 (by decide) (hts (.fieldLink RX3 11 "TheLiningsInIt$Reader" "items" "[I") (List.mem_of_getElem? (i := 1) rfl)) (fun _ h9 => h9) rfl dX3_tellItem_123 ?_
    refine lv_iload_n hx hb dX3_tellItem_126 rfl (lv_at hl 4 rfl) ?_
    refine lv_iconst (v := 3) hx hb dX3_tellItem_127 (by decide) ?_
    refine lv_iadd hx hb dX3_tellItem_128 ?_
    refine lv_topi (fun x_14 ex_14 => ?_)
    have qx_14 : x_14.toInt = slot.toInt + 3 := by rw [ex_14]; exact zf_add rfl (by decide) (by omega) (by omega)
    refine va_iald hx hb hK hP 1 0 rfl rfl (zf_in (by omega) (by omega)) dX3_tellItem_129 ?_
    refine lv_topi (fun x_15 ex_15 => ?_)
    have e3 : x_15 = fi (slot.toInt.toNat + 3) := by rw [ex_15]; congr 1; (show x_14.toInt.toNat = _; omega)
    rw [← e3] at hz9
    skip
    refine zw_V (As := [.int x_2, .int x_4, .int x_15]) (rest := []) (wr := [(rd, .inr (3, [.ref ri, .ref rl, .int rz, .int rc, .int rp, .int rf, .int rt, .int ru])), (ri, .inl (cI, 132, .inl fi)), (z0, .inr (6, [.ref zl, .ref zs, .int sz, .int at_, .int gp])), (zl, .inl (cZ, 40, .inl fl)), (zs, .inl (cI, 40, .inl fs)), (jc, .inl (cI, 3, .inl fc))]) ⟨hx, hb, hml, hown, hts⟩ (c_F_J_addPull l D cI cJ cZ cP cS po j0 jp jc z0 0 0 (cn) (de) (tr) (se) (hu) (sd) fp kf af tf (x_2) (x_4) (x_15) hy13 hy14 hy15 hy16 hy17 hy18 (by omega) (by omega) (by omega) (by omega) (by omega) (by omega) H.size) (cwV 3 hts gX3_tellItem_X0_addPull rfl rfl rfl ⟨rfl, dh_X0_addPull⟩ ⟨Nat.le_of_ble_eq_true rfl, Nat.le_of_ble_eq_true rfl⟩) hK hN (hZ.kept hS) hP hD hS hA [2, 6] [0, 1, 3, 4, 5, 7] rfl rfl (by decide) (by decide) (by decide) (va_recv (q := (RX0, TX0, 9)) hK hP (ci := 0) (q0 := 2) rfl rfl) rfl hl.1 rfl (Nat.le_of_ble_eq_true rfl) dX3_tellItem_130 ⟨Nat.le_of_ble_eq_true rfl, Nat.le_of_ble_eq_true rfl⟩ (fun r_16 u_17 H locs hr_16 hP hD hS => ?_)
    obtain ⟨q_18, q_19, q_20, q_21, q_22, q_23⟩ := u_17
    try dsimp only at hr_16
    obtain ⟨hbq_18, hnpq_23, hsr_16_0, hsr_16_1, hsr_16_2, hr_16⟩ := hr_16
    have h9R := zRe (ws' := ([(rd, .inr (3, [.ref ri, .ref rl, .int rz, .int rc, .int rp, .int rf, .int rt, .int ru])), (ri, .inl (cI, 132, .inl fi)), (z0, .inr (6, [.ref zl, .ref zs, .int sz, .int at_, .int gp])), (zl, .inl (cZ, 40, .inl fl)), (zs, .inl (cI, 40, .inl fs)), (jc, .inl (cI, 3, .inl fc)), (j0, .inr (0, [.ref z0, .ref jp, .ref jc, .int q_18, .int de, .int tr, .int se, .int hu, .int sd])), (jp, .inl (cP, 8, .inr (.inr (.inr (.inr q_19)))))] ++ (q_23.map zPo))) hP hD rfl
    clear hP hD
    obtain ⟨hP, hD⟩ := h9R
    refine W.widen (k := 1) (n := 3) (Nat.le_of_ble_eq_true rfl) (Nat.le_of_ble_eq_true rfl) ?_
    refine lv_pop hx hb dX3_tellItem_133 rfl ?_
    refine lv_goto (tgt := 172) hx hb dX3_tellItem_134 (by decide) ?_
    refine W.widen (k := 1) (n := 3) (Nat.le_of_ble_eq_true rfl) (Nat.le_of_ble_eq_true rfl) ?_
    exact W.vret hx hb hr (fun t ht hW => ⟨⟨(de, se, hu, sz, at_, gp, fl, fs, fc, q_18, q_19, q_20, q_21, q_22, q_23), rfl, ⟨(show 0 ≤ de.toInt ∧ de.toInt ≤ 24 from ⟨hy15, hy16⟩), (show 0 ≤ hu.toInt ∧ hu.toInt ≤ 9 from ⟨hy17, hy18⟩), (show 4 ≤ sz.toInt ∧ sz.toInt ≤ 40 from ⟨hy19, hy20⟩), (show 0 ≤ at_.toInt ∧ at_.toInt ≤ 40 from ⟨hy21, hy22⟩), (show 1 ≤ gp.toInt ∧ gp.toInt ≤ 9 from ⟨hy23, hy24⟩), hp_fl, hp_fs, hp_fc, (show 0 ≤ q_18.toInt ∧ q_18.toInt ≤ 8 from hbq_18), hnpq_23, (show zExt q_23 fp cn kf af tf q_19 q_18 q_20 q_21 q_22 from by first | exact zExt.refl | assumption), (show ((fi slot.toInt.toNat).toInt = 3 → cn.toInt < 8 → q_18.toInt = cn.toInt + 1) ∧ ((fi slot.toInt.toNat).toInt ≠ 3 → q_18.toInt = cn.toInt) ∧ ((fi slot.toInt.toNat).toInt = 0 → sz.toInt = (fi (slot.toInt.toNat + 1)).toInt) ∧ ((fi slot.toInt.toNat).toInt ≠ 0 → sz.toInt = sz.toInt) from by (rw [← e0, ← e1]; refine ⟨?_, ?_, ?_, ?_⟩ <;> (intros; first | rfl | omega | (exfalso; omega) | (simp_all; done)))), (show (∀ j : Nat, j < 40 → fl j = zEl (zDS fi slot.toInt.toNat) fl j) from by (intro j hj; unfold zEl zDS; dsimp only; rw [← e0]; rw [if_neg (by omega), if_neg (by omega)])), (show (∀ j : Nat, j < 40 → fs j = zEs (zDS fi slot.toInt.toNat) fs j) from by (intro j hj; unfold zEs zDS; dsimp only; rw [← e0]; rw [if_neg (by omega), if_neg (by omega)])), (show (((fi slot.toInt.toNat).toInt = 3 → cn.toInt < 8) → q_20 = zEk (zDS fi slot.toInt.toNat) cn.toInt kf ∧ q_21 = zEa (zDS fi slot.toInt.toNat) cn.toInt af ∧ q_22 = zEt (zDS fi slot.toInt.toNat) cn.toInt tf) from by (intro h; rw [← e0] at h; have z := hsr_16_2 (h (by omega)); unfold zEk zEa zEt zDS; dsimp only; rw [← e0, if_pos (by omega), if_pos (by omega), if_pos (by omega), ← e1, ← e2, ← e3, Int32.ofInt_toInt, Int32.ofInt_toInt, Int32.ofInt_toInt]; exact z)), (show fc = zEc (zDS fi slot.toInt.toNat) fc from by (unfold zEc zDS; dsimp only; rw [← e0, if_neg (by omega)])), (show de.toInt = zEnu 4 (zDS fi slot.toInt.toNat) de.toInt ∧ se.toInt = zEnu 5 (zDS fi slot.toInt.toNat) se.toInt ∧ hu.toInt = zEnu 6 (zDS fi slot.toInt.toNat) hu.toInt ∧ gp.toInt = zEnu 7 (zDS fi slot.toInt.toNat) gp.toInt ∧ at_.toInt = zEat (zDS fi slot.toInt.toNat) at_.toInt from by (unfold zEnu zEat zDS; dsimp only; rw [← e0, ← e1]; refine ⟨?_, ?_, ?_, ?_, ?_⟩ <;> ((repeat (first | rw [if_pos (by omega)] | rw [if_neg (by omega)])) <;> first | rfl | omega))), trivial⟩, by rw [ht]; exact hP.part (cx := [(rd, .inr (3, [.ref ri, .ref rl, .int rz, .int rc, .int rp, .int rf, .int rt, .int ru])), (ri, .inl (cI, 132, .inl fi)), (j0, .inr (0, [.ref z0, .ref jp, .ref jc, .int q_18, .int de, .int tr, .int se, .int hu, .int sd])), (z0, .inr (6, [.ref zl, .ref zs, .int sz, .int at_, .int gp])), (zl, .inl (cZ, 40, .inl fl)), (zs, .inl (cI, 40, .inl fs)), (jp, .inl (cP, 8, .inr (.inr (.inr (.inr q_19))))), (jc, .inl (cI, 3, .inl fc))]) (pl := (q_23.map zPo)) [0, 1, 6, 2, 3, 4, 7, 5] rfl, hD.part (cx := [(rd, .inr (3, [.ref ri, .ref rl, .int rz, .int rc, .int rp, .int rf, .int rt, .int ru])), (ri, .inl (cI, 132, .inl fi)), (j0, .inr (0, [.ref z0, .ref jp, .ref jc, .int q_18, .int de, .int tr, .int se, .int hu, .int sd])), (z0, .inr (6, [.ref zl, .ref zs, .int sz, .int at_, .int gp])), (zl, .inl (cZ, 40, .inl fl)), (zs, .inl (cI, 40, .inl fs)), (jp, .inl (cP, 8, .inr (.inr (.inr (.inr q_19))))), (jc, .inl (cI, 3, .inl fc))]) (pl := (q_23.map zPo)) [0, 1, 6, 2, 3, 4, 7, 5] (by decide) rfl⟩, hS.F ht⟩) hS.2.2 dX3_tellItem_172
  · have kc4 : (4 : Int32).toInt = 4 := by decide
    refine lv_tableIn (tgt := 159) hx hb dX3_tellItem_25 (by decide) (by decide) rfl (by decide) ?_
    refine lv_aload_n hx hb dX3_tellItem_159 rfl (lv_at hl 3 rfl) ?_
    refine lv_aload_n hx hb dX3_tellItem_160 rfl (lv_at hl 2 rfl) ?_
    refine va_get (D := D) (ci := 3) (v := .ref ri) (C := RX3) (T := TX3) (N := 8) hx hb hts hi_X3_tellItem_3 hown hK hP 0 rfl rfl 0 (by decide) (hts (.fieldLink RX3 11 "TheLiningsInIt$Reader" "items" "[I") (List.mem_of_getElem? (i := 1) rfl)) (fun _ h9 => h9) rfl dX3_tellItem_161 ?_
    refine lv_iload_n hx hb dX3_tellItem_164 rfl (lv_at hl 4 rfl) ?_
    refine va_iald hx hb hK hP 1 0 rfl rfl (zf_in (by omega) (by omega)) dX3_tellItem_165 ?_
    refine lv_topi (fun y_24 ey_24 => ?_)
    obtain rfl : y_24 = 4 := ey_24.trans ex_5.symm
    refine lv_iconst (v := 4) hx hb dX3_tellItem_166 (by decide) ?_
    refine lv_isub hx hb dX3_tellItem_167 ?_
    refine lv_topi (fun y_25 ey_25 => ?_)
    obtain rfl : y_25 = 0 := ey_25.trans (by decide)
    refine lv_iload_n hx hb dX3_tellItem_168 rfl (lv_at hl 1 rfl) ?_
    have kc0 : (0 : Int32).toInt = 0 := by decide
    skip
    refine zw_Vv (As := [.int 0, .int x_2]) (rest := []) (wr := [(rd, .inr (3, [.ref ri, .ref rl, .int rz, .int rc, .int rp, .int rf, .int rt, .int ru])), (ri, .inl (cI, 132, .inl fi)), (zl, .inl (cZ, 40, .inl fl)), (zs, .inl (cI, 40, .inl fs)), (jp, .inl (cP, 8, .inr (.inr (.inr (.inr fp)))))]) ⟨hx, hb, hml, hown, hts⟩ (c_F_J_setNumber l D cI cJ cZ cP cS po j0 jp jc z0 zl zs (cn) (de) (tr) (se) (hu) (sd) (sz) (at_) (gp) fc (0) (x_2) hy13 hy14 hy15 hy16 hy17 hy18 hy19 hy20 hy21 hy22 hy23 hy24 (by omega) (by omega) (by omega) hp_fc hp_fc H.size) (cwV 2 hts gX3_tellItem_X0_setNumber rfl rfl rfl ⟨rfl, dh_X0_setNumber⟩ ⟨Nat.le_of_ble_eq_true rfl, Nat.le_of_ble_eq_true rfl⟩) hK hN (hZ.kept hS) hP hD hS hA [2, 3, 7] [0, 1, 4, 5, 6] rfl rfl (by decide) (by decide) (by decide) (va_recv (q := (RX0, TX0, 9)) hK hP (ci := 0) (q0 := 2) rfl rfl) rfl hl.1 rfl (Nat.le_of_ble_eq_true rfl) dX3_tellItem_169 ⟨Nat.le_of_ble_eq_true rfl, Nat.le_of_ble_eq_true rfl⟩ (fun u_27 H locs hr_26 hP hD hS => ?_)
    obtain ⟨q_28, q_29, q_30, q_31, q_32, q_33⟩ := u_27
    try dsimp only at hr_26
    obtain ⟨hbq_28, hbq_30, hbq_31, hbq_32, hpq_33, hsr_26_0, hsr_26_1, hr_26⟩ := hr_26
    have h9R := zRe (ws' := [(rd, .inr (3, [.ref ri, .ref rl, .int rz, .int rc, .int rp, .int rf, .int rt, .int ru])), (ri, .inl (cI, 132, .inl fi)), (zl, .inl (cZ, 40, .inl fl)), (zs, .inl (cI, 40, .inl fs)), (jp, .inl (cP, 8, .inr (.inr (.inr (.inr fp))))), (j0, .inr (0, [.ref z0, .ref jp, .ref jc, .int cn, .int q_28, .int tr, .int q_29, .int q_30, .int sd])), (z0, .inr (6, [.ref zl, .ref zs, .int sz, .int q_31, .int q_32])), (jc, .inl (cI, 3, .inl q_33))]) hP hD rfl
    clear hP hD
    obtain ⟨hP, hD⟩ := h9R
    refine W.widen (k := 1) (n := 3) (Nat.le_of_ble_eq_true rfl) (Nat.le_of_ble_eq_true rfl) ?_
    exact W.vret hx hb hr (fun t ht hW => ⟨⟨(q_28, q_29, q_30, sz, q_31, q_32, fl, fs, q_33, cn, fp, kf, af, tf, []), rfl, ⟨(show 0 ≤ q_28.toInt ∧ q_28.toInt ≤ 24 from hbq_28), (show 0 ≤ q_30.toInt ∧ q_30.toInt ≤ 9 from hbq_30), (show 4 ≤ sz.toInt ∧ sz.toInt ≤ 40 from ⟨hy19, hy20⟩), (show 0 ≤ q_31.toInt ∧ q_31.toInt ≤ 40 from hbq_31), (show 1 ≤ q_32.toInt ∧ q_32.toInt ≤ 9 from hbq_32), hp_fl, hp_fs, hpq_33, (show 0 ≤ cn.toInt ∧ cn.toInt ≤ 8 from ⟨hy13, hy14⟩), (by intro z hz; simp at hz), (show zExt [] fp cn kf af tf fp cn kf af tf from by first | exact zExt.refl | assumption), (show ((fi slot.toInt.toNat).toInt = 3 → cn.toInt < 8 → cn.toInt = cn.toInt + 1) ∧ ((fi slot.toInt.toNat).toInt ≠ 3 → cn.toInt = cn.toInt) ∧ ((fi slot.toInt.toNat).toInt = 0 → sz.toInt = (fi (slot.toInt.toNat + 1)).toInt) ∧ ((fi slot.toInt.toNat).toInt ≠ 0 → sz.toInt = sz.toInt) from by (rw [← e0, ← e1]; refine ⟨?_, ?_, ?_, ?_⟩ <;> (intros; first | rfl | omega | (exfalso; omega) | (simp_all; done)))), (show (∀ j : Nat, j < 40 → fl j = zEl (zDS fi slot.toInt.toNat) fl j) from by (intro j hj; unfold zEl zDS; dsimp only; rw [← e0]; rw [if_neg (by omega), if_neg (by omega)])), (show (∀ j : Nat, j < 40 → fs j = zEs (zDS fi slot.toInt.toNat) fs j) from by (intro j hj; unfold zEs zDS; dsimp only; rw [← e0]; rw [if_neg (by omega), if_neg (by omega)])), (show (((fi slot.toInt.toNat).toInt = 3 → cn.toInt < 8) → kf = zEk (zDS fi slot.toInt.toNat) cn.toInt kf ∧ af = zEa (zDS fi slot.toInt.toNat) cn.toInt af ∧ tf = zEt (zDS fi slot.toInt.toNat) cn.toInt tf) from by (intro _; unfold zEk zEa zEt zDS; dsimp only; rw [← e0, if_neg (by omega), if_neg (by omega), if_neg (by omega)]; exact ⟨rfl, rfl, rfl⟩)), (show q_33 = zEc (zDS fi slot.toInt.toNat) fc from by (unfold zEc zDS; dsimp only; rw [← e0, if_neg (by omega)]; exact hsr_26_1.1 (by omega))), (show q_28.toInt = zEnu 4 (zDS fi slot.toInt.toNat) de.toInt ∧ q_29.toInt = zEnu 5 (zDS fi slot.toInt.toNat) se.toInt ∧ q_30.toInt = zEnu 6 (zDS fi slot.toInt.toNat) hu.toInt ∧ q_32.toInt = zEnu 7 (zDS fi slot.toInt.toNat) gp.toInt ∧ q_31.toInt = zEat (zDS fi slot.toInt.toNat) at_.toInt from by (have z := hsr_26_0; obtain ⟨z1, z2, z3, z4, z5⟩ := z; (repeat (first | rw [if_pos (by omega)] at z1 | rw [if_neg (by omega)] at z1)); (repeat (first | rw [if_pos (by omega)] at z2 | rw [if_neg (by omega)] at z2)); (repeat (first | rw [if_pos (by omega)] at z3 | rw [if_neg (by omega)] at z3)); (repeat (first | rw [if_pos (by omega)] at z4 | rw [if_neg (by omega)] at z4)); (repeat (first | rw [if_pos (by omega)] at z5 | rw [if_neg (by omega)] at z5)); unfold zEnu zEat zDS; dsimp only; rw [← e0, ← e1]; refine ⟨?_, ?_, ?_, ?_, ?_⟩ <;> ((repeat (first | rw [if_pos (by omega)] | rw [if_neg (by omega)])) <;> first | rfl | omega))), trivial⟩, zRet ht hP hD [0, 1, 5, 6, 2, 3, 4, 7] (by decide) rfl⟩, hS.F ht⟩) hS.2.2 dX3_tellItem_172
  · have kc5 : (5 : Int32).toInt = 5 := by decide
    refine lv_tableIn (tgt := 159) hx hb dX3_tellItem_25 (by decide) (by decide) rfl (by decide) ?_
    refine lv_aload_n hx hb dX3_tellItem_159 rfl (lv_at hl 3 rfl) ?_
    refine lv_aload_n hx hb dX3_tellItem_160 rfl (lv_at hl 2 rfl) ?_
    refine va_get (D := D) (ci := 3) (v := .ref ri) (C := RX3) (T := TX3) (N := 8) hx hb hts hi_X3_tellItem_3 hown hK hP 0 rfl rfl 0 (by decide) (hts (.fieldLink RX3 11 "TheLiningsInIt$Reader" "items" "[I") (List.mem_of_getElem? (i := 1) rfl)) (fun _ h9 => h9) rfl dX3_tellItem_161 ?_
    refine lv_iload_n hx hb dX3_tellItem_164 rfl (lv_at hl 4 rfl) ?_
    refine va_iald hx hb hK hP 1 0 rfl rfl (zf_in (by omega) (by omega)) dX3_tellItem_165 ?_
    refine lv_topi (fun y_34 ey_34 => ?_)
    obtain rfl : y_34 = 5 := ey_34.trans ex_5.symm
    refine lv_iconst (v := 4) hx hb dX3_tellItem_166 (by decide) ?_
    refine lv_isub hx hb dX3_tellItem_167 ?_
    refine lv_topi (fun y_35 ey_35 => ?_)
    obtain rfl : y_35 = 1 := ey_35.trans (by decide)
    refine lv_iload_n hx hb dX3_tellItem_168 rfl (lv_at hl 1 rfl) ?_
    have kc1 : (1 : Int32).toInt = 1 := by decide
    skip
    refine zw_Vv (As := [.int 1, .int x_2]) (rest := []) (wr := [(rd, .inr (3, [.ref ri, .ref rl, .int rz, .int rc, .int rp, .int rf, .int rt, .int ru])), (ri, .inl (cI, 132, .inl fi)), (zl, .inl (cZ, 40, .inl fl)), (zs, .inl (cI, 40, .inl fs)), (jp, .inl (cP, 8, .inr (.inr (.inr (.inr fp)))))]) ⟨hx, hb, hml, hown, hts⟩ (c_F_J_setNumber l D cI cJ cZ cP cS po j0 jp jc z0 zl zs (cn) (de) (tr) (se) (hu) (sd) (sz) (at_) (gp) fc (1) (x_2) hy13 hy14 hy15 hy16 hy17 hy18 hy19 hy20 hy21 hy22 hy23 hy24 (by omega) (by omega) (by omega) hp_fc hp_fc H.size) (cwV 2 hts gX3_tellItem_X0_setNumber rfl rfl rfl ⟨rfl, dh_X0_setNumber⟩ ⟨Nat.le_of_ble_eq_true rfl, Nat.le_of_ble_eq_true rfl⟩) hK hN (hZ.kept hS) hP hD hS hA [2, 3, 7] [0, 1, 4, 5, 6] rfl rfl (by decide) (by decide) (by decide) (va_recv (q := (RX0, TX0, 9)) hK hP (ci := 0) (q0 := 2) rfl rfl) rfl hl.1 rfl (Nat.le_of_ble_eq_true rfl) dX3_tellItem_169 ⟨Nat.le_of_ble_eq_true rfl, Nat.le_of_ble_eq_true rfl⟩ (fun u_37 H locs hr_36 hP hD hS => ?_)
    obtain ⟨q_38, q_39, q_40, q_41, q_42, q_43⟩ := u_37
    try dsimp only at hr_36
    obtain ⟨hbq_38, hbq_40, hbq_41, hbq_42, hpq_43, hsr_36_0, hsr_36_1, hr_36⟩ := hr_36
    have h9R := zRe (ws' := [(rd, .inr (3, [.ref ri, .ref rl, .int rz, .int rc, .int rp, .int rf, .int rt, .int ru])), (ri, .inl (cI, 132, .inl fi)), (zl, .inl (cZ, 40, .inl fl)), (zs, .inl (cI, 40, .inl fs)), (jp, .inl (cP, 8, .inr (.inr (.inr (.inr fp))))), (j0, .inr (0, [.ref z0, .ref jp, .ref jc, .int cn, .int q_38, .int tr, .int q_39, .int q_40, .int sd])), (z0, .inr (6, [.ref zl, .ref zs, .int sz, .int q_41, .int q_42])), (jc, .inl (cI, 3, .inl q_43))]) hP hD rfl
    clear hP hD
    obtain ⟨hP, hD⟩ := h9R
    refine W.widen (k := 1) (n := 3) (Nat.le_of_ble_eq_true rfl) (Nat.le_of_ble_eq_true rfl) ?_
    exact W.vret hx hb hr (fun t ht hW => ⟨⟨(q_38, q_39, q_40, sz, q_41, q_42, fl, fs, q_43, cn, fp, kf, af, tf, []), rfl, ⟨(show 0 ≤ q_38.toInt ∧ q_38.toInt ≤ 24 from hbq_38), (show 0 ≤ q_40.toInt ∧ q_40.toInt ≤ 9 from hbq_40), (show 4 ≤ sz.toInt ∧ sz.toInt ≤ 40 from ⟨hy19, hy20⟩), (show 0 ≤ q_41.toInt ∧ q_41.toInt ≤ 40 from hbq_41), (show 1 ≤ q_42.toInt ∧ q_42.toInt ≤ 9 from hbq_42), hp_fl, hp_fs, hpq_43, (show 0 ≤ cn.toInt ∧ cn.toInt ≤ 8 from ⟨hy13, hy14⟩), (by intro z hz; simp at hz), (show zExt [] fp cn kf af tf fp cn kf af tf from by first | exact zExt.refl | assumption), (show ((fi slot.toInt.toNat).toInt = 3 → cn.toInt < 8 → cn.toInt = cn.toInt + 1) ∧ ((fi slot.toInt.toNat).toInt ≠ 3 → cn.toInt = cn.toInt) ∧ ((fi slot.toInt.toNat).toInt = 0 → sz.toInt = (fi (slot.toInt.toNat + 1)).toInt) ∧ ((fi slot.toInt.toNat).toInt ≠ 0 → sz.toInt = sz.toInt) from by (rw [← e0, ← e1]; refine ⟨?_, ?_, ?_, ?_⟩ <;> (intros; first | rfl | omega | (exfalso; omega) | (simp_all; done)))), (show (∀ j : Nat, j < 40 → fl j = zEl (zDS fi slot.toInt.toNat) fl j) from by (intro j hj; unfold zEl zDS; dsimp only; rw [← e0]; rw [if_neg (by omega), if_neg (by omega)])), (show (∀ j : Nat, j < 40 → fs j = zEs (zDS fi slot.toInt.toNat) fs j) from by (intro j hj; unfold zEs zDS; dsimp only; rw [← e0]; rw [if_neg (by omega), if_neg (by omega)])), (show (((fi slot.toInt.toNat).toInt = 3 → cn.toInt < 8) → kf = zEk (zDS fi slot.toInt.toNat) cn.toInt kf ∧ af = zEa (zDS fi slot.toInt.toNat) cn.toInt af ∧ tf = zEt (zDS fi slot.toInt.toNat) cn.toInt tf) from by (intro _; unfold zEk zEa zEt zDS; dsimp only; rw [← e0, if_neg (by omega), if_neg (by omega), if_neg (by omega)]; exact ⟨rfl, rfl, rfl⟩)), (show q_43 = zEc (zDS fi slot.toInt.toNat) fc from by (unfold zEc zDS; dsimp only; rw [← e0, if_neg (by omega)]; exact hsr_36_1.1 (by omega))), (show q_38.toInt = zEnu 4 (zDS fi slot.toInt.toNat) de.toInt ∧ q_39.toInt = zEnu 5 (zDS fi slot.toInt.toNat) se.toInt ∧ q_40.toInt = zEnu 6 (zDS fi slot.toInt.toNat) hu.toInt ∧ q_42.toInt = zEnu 7 (zDS fi slot.toInt.toNat) gp.toInt ∧ q_41.toInt = zEat (zDS fi slot.toInt.toNat) at_.toInt from by (have z := hsr_36_0; obtain ⟨z1, z2, z3, z4, z5⟩ := z; (repeat (first | rw [if_pos (by omega)] at z1 | rw [if_neg (by omega)] at z1)); (repeat (first | rw [if_pos (by omega)] at z2 | rw [if_neg (by omega)] at z2)); (repeat (first | rw [if_pos (by omega)] at z3 | rw [if_neg (by omega)] at z3)); (repeat (first | rw [if_pos (by omega)] at z4 | rw [if_neg (by omega)] at z4)); (repeat (first | rw [if_pos (by omega)] at z5 | rw [if_neg (by omega)] at z5)); unfold zEnu zEat zDS; dsimp only; rw [← e0, ← e1]; refine ⟨?_, ?_, ?_, ?_, ?_⟩ <;> ((repeat (first | rw [if_pos (by omega)] | rw [if_neg (by omega)])) <;> first | rfl | omega))), trivial⟩, zRet ht hP hD [0, 1, 5, 6, 2, 3, 4, 7] (by decide) rfl⟩, hS.F ht⟩) hS.2.2 dX3_tellItem_172
  · have kc6 : (6 : Int32).toInt = 6 := by decide
    refine lv_tableIn (tgt := 159) hx hb dX3_tellItem_25 (by decide) (by decide) rfl (by decide) ?_
    refine lv_aload_n hx hb dX3_tellItem_159 rfl (lv_at hl 3 rfl) ?_
    refine lv_aload_n hx hb dX3_tellItem_160 rfl (lv_at hl 2 rfl) ?_
    refine va_get (D := D) (ci := 3) (v := .ref ri) (C := RX3) (T := TX3) (N := 8) hx hb hts hi_X3_tellItem_3 hown hK hP 0 rfl rfl 0 (by decide) (hts (.fieldLink RX3 11 "TheLiningsInIt$Reader" "items" "[I") (List.mem_of_getElem? (i := 1) rfl)) (fun _ h9 => h9) rfl dX3_tellItem_161 ?_
    refine lv_iload_n hx hb dX3_tellItem_164 rfl (lv_at hl 4 rfl) ?_
    refine va_iald hx hb hK hP 1 0 rfl rfl (zf_in (by omega) (by omega)) dX3_tellItem_165 ?_
    refine lv_topi (fun y_44 ey_44 => ?_)
    obtain rfl : y_44 = 6 := ey_44.trans ex_5.symm
    refine lv_iconst (v := 4) hx hb dX3_tellItem_166 (by decide) ?_
    refine lv_isub hx hb dX3_tellItem_167 ?_
    refine lv_topi (fun y_45 ey_45 => ?_)
    obtain rfl : y_45 = 2 := ey_45.trans (by decide)
    refine lv_iload_n hx hb dX3_tellItem_168 rfl (lv_at hl 1 rfl) ?_
    have kc2 : (2 : Int32).toInt = 2 := by decide
    skip
    refine zw_Vv (As := [.int 2, .int x_2]) (rest := []) (wr := [(rd, .inr (3, [.ref ri, .ref rl, .int rz, .int rc, .int rp, .int rf, .int rt, .int ru])), (ri, .inl (cI, 132, .inl fi)), (zl, .inl (cZ, 40, .inl fl)), (zs, .inl (cI, 40, .inl fs)), (jp, .inl (cP, 8, .inr (.inr (.inr (.inr fp)))))]) ⟨hx, hb, hml, hown, hts⟩ (c_F_J_setNumber l D cI cJ cZ cP cS po j0 jp jc z0 zl zs (cn) (de) (tr) (se) (hu) (sd) (sz) (at_) (gp) fc (2) (x_2) hy13 hy14 hy15 hy16 hy17 hy18 hy19 hy20 hy21 hy22 hy23 hy24 (by omega) (by omega) (by omega) hp_fc hp_fc H.size) (cwV 2 hts gX3_tellItem_X0_setNumber rfl rfl rfl ⟨rfl, dh_X0_setNumber⟩ ⟨Nat.le_of_ble_eq_true rfl, Nat.le_of_ble_eq_true rfl⟩) hK hN (hZ.kept hS) hP hD hS hA [2, 3, 7] [0, 1, 4, 5, 6] rfl rfl (by decide) (by decide) (by decide) (va_recv (q := (RX0, TX0, 9)) hK hP (ci := 0) (q0 := 2) rfl rfl) rfl hl.1 rfl (Nat.le_of_ble_eq_true rfl) dX3_tellItem_169 ⟨Nat.le_of_ble_eq_true rfl, Nat.le_of_ble_eq_true rfl⟩ (fun u_47 H locs hr_46 hP hD hS => ?_)
    obtain ⟨q_48, q_49, q_50, q_51, q_52, q_53⟩ := u_47
    try dsimp only at hr_46
    obtain ⟨hbq_48, hbq_50, hbq_51, hbq_52, hpq_53, hsr_46_0, hsr_46_1, hr_46⟩ := hr_46
    have h9R := zRe (ws' := [(rd, .inr (3, [.ref ri, .ref rl, .int rz, .int rc, .int rp, .int rf, .int rt, .int ru])), (ri, .inl (cI, 132, .inl fi)), (zl, .inl (cZ, 40, .inl fl)), (zs, .inl (cI, 40, .inl fs)), (jp, .inl (cP, 8, .inr (.inr (.inr (.inr fp))))), (j0, .inr (0, [.ref z0, .ref jp, .ref jc, .int cn, .int q_48, .int tr, .int q_49, .int q_50, .int sd])), (z0, .inr (6, [.ref zl, .ref zs, .int sz, .int q_51, .int q_52])), (jc, .inl (cI, 3, .inl q_53))]) hP hD rfl
    clear hP hD
    obtain ⟨hP, hD⟩ := h9R
    refine W.widen (k := 1) (n := 3) (Nat.le_of_ble_eq_true rfl) (Nat.le_of_ble_eq_true rfl) ?_
    exact W.vret hx hb hr (fun t ht hW => ⟨⟨(q_48, q_49, q_50, sz, q_51, q_52, fl, fs, q_53, cn, fp, kf, af, tf, []), rfl, ⟨(show 0 ≤ q_48.toInt ∧ q_48.toInt ≤ 24 from hbq_48), (show 0 ≤ q_50.toInt ∧ q_50.toInt ≤ 9 from hbq_50), (show 4 ≤ sz.toInt ∧ sz.toInt ≤ 40 from ⟨hy19, hy20⟩), (show 0 ≤ q_51.toInt ∧ q_51.toInt ≤ 40 from hbq_51), (show 1 ≤ q_52.toInt ∧ q_52.toInt ≤ 9 from hbq_52), hp_fl, hp_fs, hpq_53, (show 0 ≤ cn.toInt ∧ cn.toInt ≤ 8 from ⟨hy13, hy14⟩), (by intro z hz; simp at hz), (show zExt [] fp cn kf af tf fp cn kf af tf from by first | exact zExt.refl | assumption), (show ((fi slot.toInt.toNat).toInt = 3 → cn.toInt < 8 → cn.toInt = cn.toInt + 1) ∧ ((fi slot.toInt.toNat).toInt ≠ 3 → cn.toInt = cn.toInt) ∧ ((fi slot.toInt.toNat).toInt = 0 → sz.toInt = (fi (slot.toInt.toNat + 1)).toInt) ∧ ((fi slot.toInt.toNat).toInt ≠ 0 → sz.toInt = sz.toInt) from by (rw [← e0, ← e1]; refine ⟨?_, ?_, ?_, ?_⟩ <;> (intros; first | rfl | omega | (exfalso; omega) | (simp_all; done)))), (show (∀ j : Nat, j < 40 → fl j = zEl (zDS fi slot.toInt.toNat) fl j) from by (intro j hj; unfold zEl zDS; dsimp only; rw [← e0]; rw [if_neg (by omega), if_neg (by omega)])), (show (∀ j : Nat, j < 40 → fs j = zEs (zDS fi slot.toInt.toNat) fs j) from by (intro j hj; unfold zEs zDS; dsimp only; rw [← e0]; rw [if_neg (by omega), if_neg (by omega)])), (show (((fi slot.toInt.toNat).toInt = 3 → cn.toInt < 8) → kf = zEk (zDS fi slot.toInt.toNat) cn.toInt kf ∧ af = zEa (zDS fi slot.toInt.toNat) cn.toInt af ∧ tf = zEt (zDS fi slot.toInt.toNat) cn.toInt tf) from by (intro _; unfold zEk zEa zEt zDS; dsimp only; rw [← e0, if_neg (by omega), if_neg (by omega), if_neg (by omega)]; exact ⟨rfl, rfl, rfl⟩)), (show q_53 = zEc (zDS fi slot.toInt.toNat) fc from by (unfold zEc zDS; dsimp only; rw [← e0, if_neg (by omega)]; exact hsr_46_1.1 (by omega))), (show q_48.toInt = zEnu 4 (zDS fi slot.toInt.toNat) de.toInt ∧ q_49.toInt = zEnu 5 (zDS fi slot.toInt.toNat) se.toInt ∧ q_50.toInt = zEnu 6 (zDS fi slot.toInt.toNat) hu.toInt ∧ q_52.toInt = zEnu 7 (zDS fi slot.toInt.toNat) gp.toInt ∧ q_51.toInt = zEat (zDS fi slot.toInt.toNat) at_.toInt from by (have z := hsr_46_0; obtain ⟨z1, z2, z3, z4, z5⟩ := z; (repeat (first | rw [if_pos (by omega)] at z1 | rw [if_neg (by omega)] at z1)); (repeat (first | rw [if_pos (by omega)] at z2 | rw [if_neg (by omega)] at z2)); (repeat (first | rw [if_pos (by omega)] at z3 | rw [if_neg (by omega)] at z3)); (repeat (first | rw [if_pos (by omega)] at z4 | rw [if_neg (by omega)] at z4)); (repeat (first | rw [if_pos (by omega)] at z5 | rw [if_neg (by omega)] at z5)); unfold zEnu zEat zDS; dsimp only; rw [← e0, ← e1]; refine ⟨?_, ?_, ?_, ?_, ?_⟩ <;> ((repeat (first | rw [if_pos (by omega)] | rw [if_neg (by omega)])) <;> first | rfl | omega))), trivial⟩, zRet ht hP hD [0, 1, 5, 6, 2, 3, 4, 7] (by decide) rfl⟩, hS.F ht⟩) hS.2.2 dX3_tellItem_172
  · have kc7 : (7 : Int32).toInt = 7 := by decide
    refine lv_tableIn (tgt := 159) hx hb dX3_tellItem_25 (by decide) (by decide) rfl (by decide) ?_
    refine lv_aload_n hx hb dX3_tellItem_159 rfl (lv_at hl 3 rfl) ?_
    refine lv_aload_n hx hb dX3_tellItem_160 rfl (lv_at hl 2 rfl) ?_
    refine va_get (D := D) (ci := 3) (v := .ref ri) (C := RX3) (T := TX3) (N := 8) hx hb hts hi_X3_tellItem_3 hown hK hP 0 rfl rfl 0 (by decide) (hts (.fieldLink RX3 11 "TheLiningsInIt$Reader" "items" "[I") (List.mem_of_getElem? (i := 1) rfl)) (fun _ h9 => h9) rfl dX3_tellItem_161 ?_
    refine lv_iload_n hx hb dX3_tellItem_164 rfl (lv_at hl 4 rfl) ?_
    refine va_iald hx hb hK hP 1 0 rfl rfl (zf_in (by omega) (by omega)) dX3_tellItem_165 ?_
    refine lv_topi (fun y_54 ey_54 => ?_)
    obtain rfl : y_54 = 7 := ey_54.trans ex_5.symm
    refine lv_iconst (v := 4) hx hb dX3_tellItem_166 (by decide) ?_
    refine lv_isub hx hb dX3_tellItem_167 ?_
    refine lv_topi (fun y_55 ey_55 => ?_)
    obtain rfl : y_55 = 3 := ey_55.trans (by decide)
    refine lv_iload_n hx hb dX3_tellItem_168 rfl (lv_at hl 1 rfl) ?_
    have kc3 : (3 : Int32).toInt = 3 := by decide
    skip
    refine zw_Vv (As := [.int 3, .int x_2]) (rest := []) (wr := [(rd, .inr (3, [.ref ri, .ref rl, .int rz, .int rc, .int rp, .int rf, .int rt, .int ru])), (ri, .inl (cI, 132, .inl fi)), (zl, .inl (cZ, 40, .inl fl)), (zs, .inl (cI, 40, .inl fs)), (jp, .inl (cP, 8, .inr (.inr (.inr (.inr fp)))))]) ⟨hx, hb, hml, hown, hts⟩ (c_F_J_setNumber l D cI cJ cZ cP cS po j0 jp jc z0 zl zs (cn) (de) (tr) (se) (hu) (sd) (sz) (at_) (gp) fc (3) (x_2) hy13 hy14 hy15 hy16 hy17 hy18 hy19 hy20 hy21 hy22 hy23 hy24 (by omega) (by omega) (by omega) hp_fc hp_fc H.size) (cwV 2 hts gX3_tellItem_X0_setNumber rfl rfl rfl ⟨rfl, dh_X0_setNumber⟩ ⟨Nat.le_of_ble_eq_true rfl, Nat.le_of_ble_eq_true rfl⟩) hK hN (hZ.kept hS) hP hD hS hA [2, 3, 7] [0, 1, 4, 5, 6] rfl rfl (by decide) (by decide) (by decide) (va_recv (q := (RX0, TX0, 9)) hK hP (ci := 0) (q0 := 2) rfl rfl) rfl hl.1 rfl (Nat.le_of_ble_eq_true rfl) dX3_tellItem_169 ⟨Nat.le_of_ble_eq_true rfl, Nat.le_of_ble_eq_true rfl⟩ (fun u_57 H locs hr_56 hP hD hS => ?_)
    obtain ⟨q_58, q_59, q_60, q_61, q_62, q_63⟩ := u_57
    try dsimp only at hr_56
    obtain ⟨hbq_58, hbq_60, hbq_61, hbq_62, hpq_63, hsr_56_0, hsr_56_1, hr_56⟩ := hr_56
    have h9R := zRe (ws' := [(rd, .inr (3, [.ref ri, .ref rl, .int rz, .int rc, .int rp, .int rf, .int rt, .int ru])), (ri, .inl (cI, 132, .inl fi)), (zl, .inl (cZ, 40, .inl fl)), (zs, .inl (cI, 40, .inl fs)), (jp, .inl (cP, 8, .inr (.inr (.inr (.inr fp))))), (j0, .inr (0, [.ref z0, .ref jp, .ref jc, .int cn, .int q_58, .int tr, .int q_59, .int q_60, .int sd])), (z0, .inr (6, [.ref zl, .ref zs, .int sz, .int q_61, .int q_62])), (jc, .inl (cI, 3, .inl q_63))]) hP hD rfl
    clear hP hD
    obtain ⟨hP, hD⟩ := h9R
    refine W.widen (k := 1) (n := 3) (Nat.le_of_ble_eq_true rfl) (Nat.le_of_ble_eq_true rfl) ?_
    exact W.vret hx hb hr (fun t ht hW => ⟨⟨(q_58, q_59, q_60, sz, q_61, q_62, fl, fs, q_63, cn, fp, kf, af, tf, []), rfl, ⟨(show 0 ≤ q_58.toInt ∧ q_58.toInt ≤ 24 from hbq_58), (show 0 ≤ q_60.toInt ∧ q_60.toInt ≤ 9 from hbq_60), (show 4 ≤ sz.toInt ∧ sz.toInt ≤ 40 from ⟨hy19, hy20⟩), (show 0 ≤ q_61.toInt ∧ q_61.toInt ≤ 40 from hbq_61), (show 1 ≤ q_62.toInt ∧ q_62.toInt ≤ 9 from hbq_62), hp_fl, hp_fs, hpq_63, (show 0 ≤ cn.toInt ∧ cn.toInt ≤ 8 from ⟨hy13, hy14⟩), (by intro z hz; simp at hz), (show zExt [] fp cn kf af tf fp cn kf af tf from by first | exact zExt.refl | assumption), (show ((fi slot.toInt.toNat).toInt = 3 → cn.toInt < 8 → cn.toInt = cn.toInt + 1) ∧ ((fi slot.toInt.toNat).toInt ≠ 3 → cn.toInt = cn.toInt) ∧ ((fi slot.toInt.toNat).toInt = 0 → sz.toInt = (fi (slot.toInt.toNat + 1)).toInt) ∧ ((fi slot.toInt.toNat).toInt ≠ 0 → sz.toInt = sz.toInt) from by (rw [← e0, ← e1]; refine ⟨?_, ?_, ?_, ?_⟩ <;> (intros; first | rfl | omega | (exfalso; omega) | (simp_all; done)))), (show (∀ j : Nat, j < 40 → fl j = zEl (zDS fi slot.toInt.toNat) fl j) from by (intro j hj; unfold zEl zDS; dsimp only; rw [← e0]; rw [if_neg (by omega), if_neg (by omega)])), (show (∀ j : Nat, j < 40 → fs j = zEs (zDS fi slot.toInt.toNat) fs j) from by (intro j hj; unfold zEs zDS; dsimp only; rw [← e0]; rw [if_neg (by omega), if_neg (by omega)])), (show (((fi slot.toInt.toNat).toInt = 3 → cn.toInt < 8) → kf = zEk (zDS fi slot.toInt.toNat) cn.toInt kf ∧ af = zEa (zDS fi slot.toInt.toNat) cn.toInt af ∧ tf = zEt (zDS fi slot.toInt.toNat) cn.toInt tf) from by (intro _; unfold zEk zEa zEt zDS; dsimp only; rw [← e0, if_neg (by omega), if_neg (by omega), if_neg (by omega)]; exact ⟨rfl, rfl, rfl⟩)), (show q_63 = zEc (zDS fi slot.toInt.toNat) fc from by (unfold zEc zDS; dsimp only; rw [← e0, if_neg (by omega)]; exact hsr_56_1.1 (by omega))), (show q_58.toInt = zEnu 4 (zDS fi slot.toInt.toNat) de.toInt ∧ q_59.toInt = zEnu 5 (zDS fi slot.toInt.toNat) se.toInt ∧ q_60.toInt = zEnu 6 (zDS fi slot.toInt.toNat) hu.toInt ∧ q_62.toInt = zEnu 7 (zDS fi slot.toInt.toNat) gp.toInt ∧ q_61.toInt = zEat (zDS fi slot.toInt.toNat) at_.toInt from by (have z := hsr_56_0; obtain ⟨z1, z2, z3, z4, z5⟩ := z; (repeat (first | rw [if_pos (by omega)] at z1 | rw [if_neg (by omega)] at z1)); (repeat (first | rw [if_pos (by omega)] at z2 | rw [if_neg (by omega)] at z2)); (repeat (first | rw [if_pos (by omega)] at z3 | rw [if_neg (by omega)] at z3)); (repeat (first | rw [if_pos (by omega)] at z4 | rw [if_neg (by omega)] at z4)); (repeat (first | rw [if_pos (by omega)] at z5 | rw [if_neg (by omega)] at z5)); unfold zEnu zEat zDS; dsimp only; rw [← e0, ← e1]; refine ⟨?_, ?_, ?_, ?_, ?_⟩ <;> ((repeat (first | rw [if_pos (by omega)] | rw [if_neg (by omega)])) <;> first | rfl | omega))), trivial⟩, zRet ht hP hD [0, 1, 5, 6, 2, 3, 4, 7] (by decide) rfl⟩, hS.F ht⟩) hS.2.2 dX3_tellItem_172
  · have kc8 : (8 : Int32).toInt = 8 := by decide
    refine lv_tableIn (tgt := 137) hx hb dX3_tellItem_25 (by decide) (by decide) rfl (by decide) ?_
    refine lv_aload_n hx hb dX3_tellItem_137 rfl (lv_at hl 3 rfl) ?_
    refine va_get (D := D) (ci := 0) (v := .ref jc) (C := RX0) (T := TX0) (N := 9) hx hb hts hi_X3_tellItem_0 hown hK hP 2 rfl rfl 2 (by decide) (hts (.fieldLink RX3 158 "TheLiningsInIt$Jacket" "costs" "[I") (List.mem_of_getElem? (i := 5) rfl)) (fun _ h9 => h9) rfl dX3_tellItem_138 ?_
    refine lv_iload_n hx hb dX3_tellItem_141 rfl (lv_at hl 1 rfl) ?_
    refine lv_iload hx hb dX3_tellItem_142 (lv_at hl 0 rfl) ?_
    refine va_iast hx hb hK hP hD hS 7 0 rfl rfl (zf_in (by omega) (by omega)) dX3_tellItem_144 (fun H locs hP hD hS => ?_)
    have hpg_64 : zRg (upd fc x_2.toNatClampNeg x_4) (0) 99 := zRg_upd hp_fc (by omega) (by omega)
    obtain ⟨g_64, hg_64⟩ : ∃ g : Nat → Int32, g = upd fc x_2.toNatClampNeg x_4 := ⟨_, rfl⟩
    rw [← hg_64] at hP hD hpg_64
    have h9R := zRe (ws' := [(rd, .inr (3, [.ref ri, .ref rl, .int rz, .int rc, .int rp, .int rf, .int rt, .int ru])), (ri, .inl (cI, 132, .inl fi)), (j0, .inr (0, [.ref z0, .ref jp, .ref jc, .int cn, .int de, .int tr, .int se, .int hu, .int sd])), (z0, .inr (6, [.ref zl, .ref zs, .int sz, .int at_, .int gp])), (zl, .inl (cZ, 40, .inl fl)), (zs, .inl (cI, 40, .inl fs)), (jp, .inl (cP, 8, .inr (.inr (.inr (.inr fp))))), (jc, .inl (cI, 3, .inl g_64))]) hP hD rfl
    clear hP hD
    obtain ⟨hP, hD⟩ := h9R
    refine lv_goto (tgt := 172) hx hb dX3_tellItem_145 (by decide) ?_
    refine W.widen (k := 1) (n := 3) (Nat.le_of_ble_eq_true rfl) (Nat.le_of_ble_eq_true rfl) ?_
    exact W.vret hx hb hr (fun t ht hW => ⟨⟨(de, se, hu, sz, at_, gp, fl, fs, g_64, cn, fp, kf, af, tf, []), rfl, ⟨(show 0 ≤ de.toInt ∧ de.toInt ≤ 24 from ⟨hy15, hy16⟩), (show 0 ≤ hu.toInt ∧ hu.toInt ≤ 9 from ⟨hy17, hy18⟩), (show 4 ≤ sz.toInt ∧ sz.toInt ≤ 40 from ⟨hy19, hy20⟩), (show 0 ≤ at_.toInt ∧ at_.toInt ≤ 40 from ⟨hy21, hy22⟩), (show 1 ≤ gp.toInt ∧ gp.toInt ≤ 9 from ⟨hy23, hy24⟩), hp_fl, hp_fs, hpg_64, (show 0 ≤ cn.toInt ∧ cn.toInt ≤ 8 from ⟨hy13, hy14⟩), (by intro z hz; simp at hz), (show zExt [] fp cn kf af tf fp cn kf af tf from by first | exact zExt.refl | assumption), (show ((fi slot.toInt.toNat).toInt = 3 → cn.toInt < 8 → cn.toInt = cn.toInt + 1) ∧ ((fi slot.toInt.toNat).toInt ≠ 3 → cn.toInt = cn.toInt) ∧ ((fi slot.toInt.toNat).toInt = 0 → sz.toInt = (fi (slot.toInt.toNat + 1)).toInt) ∧ ((fi slot.toInt.toNat).toInt ≠ 0 → sz.toInt = sz.toInt) from by (rw [← e0, ← e1]; refine ⟨?_, ?_, ?_, ?_⟩ <;> (intros; first | rfl | omega | (exfalso; omega) | (simp_all; done)))), (show (∀ j : Nat, j < 40 → fl j = zEl (zDS fi slot.toInt.toNat) fl j) from by (intro j hj; unfold zEl zDS; dsimp only; rw [← e0]; rw [if_neg (by omega), if_neg (by omega)])), (show (∀ j : Nat, j < 40 → fs j = zEs (zDS fi slot.toInt.toNat) fs j) from by (intro j hj; unfold zEs zDS; dsimp only; rw [← e0]; rw [if_neg (by omega), if_neg (by omega)])), (show (((fi slot.toInt.toNat).toInt = 3 → cn.toInt < 8) → kf = zEk (zDS fi slot.toInt.toNat) cn.toInt kf ∧ af = zEa (zDS fi slot.toInt.toNat) cn.toInt af ∧ tf = zEt (zDS fi slot.toInt.toNat) cn.toInt tf) from by (intro _; unfold zEk zEa zEt zDS; dsimp only; rw [← e0, if_neg (by omega), if_neg (by omega), if_neg (by omega)]; exact ⟨rfl, rfl, rfl⟩)), (show g_64 = zEc (zDS fi slot.toInt.toNat) fc from by (unfold zEc zDS; dsimp only; rw [← e0, if_pos (by omega), ← e1, ← e2, Int32.ofInt_toInt, hg_64]; rfl)), (show de.toInt = zEnu 4 (zDS fi slot.toInt.toNat) de.toInt ∧ se.toInt = zEnu 5 (zDS fi slot.toInt.toNat) se.toInt ∧ hu.toInt = zEnu 6 (zDS fi slot.toInt.toNat) hu.toInt ∧ gp.toInt = zEnu 7 (zDS fi slot.toInt.toNat) gp.toInt ∧ at_.toInt = zEat (zDS fi slot.toInt.toNat) at_.toInt from by (unfold zEnu zEat zDS; dsimp only; rw [← e0, ← e1]; refine ⟨?_, ?_, ?_, ?_, ?_⟩ <;> ((repeat (first | rw [if_pos (by omega)] | rw [if_neg (by omega)])) <;> first | rfl | omega))), trivial⟩, zRet ht hP hD [0, 1, 2, 3, 4, 5, 6, 7] (by decide) rfl⟩, hS.F ht⟩) hS.2.2 dX3_tellItem_172
  · have kc9 : (9 : Int32).toInt = 9 := by decide
    refine lv_tableIn (tgt := 148) hx hb dX3_tellItem_25 (by decide) (by decide) rfl (by decide) ?_
    refine lv_aload_n hx hb dX3_tellItem_148 rfl (lv_at hl 3 rfl) ?_
    refine va_get (D := D) (ci := 0) (v := .ref z0) (C := RX0) (T := TX0) (N := 9) hx hb hts hi_X3_tellItem_0 hown hK hP 2 rfl rfl 0 (by decide) (hts (.fieldLink RX3 136 "TheLiningsInIt$Jacket" "zip" "LTheLiningsInIt$Zip;") (List.mem_of_getElem? (i := 2) rfl)) (fun _ h9 => h9) rfl dX3_tellItem_149 ?_
    refine lv_iload_n hx hb dX3_tellItem_152 rfl (lv_at hl 1 rfl) ?_
    refine va_put (D := D) (ci := 6) (v := .int x_2) (ty := .int) (C := RX6) (T := TX6) (N := 5) hx hb hts hi_X3_tellItem_6 tyX6 tyX6_ok nmX6 hown hK hP hD hS 3 rfl rfl 3 (by decide) (hts (.fieldLink RX3 161 "TheLiningsInIt$Zip" "at" "I") (List.mem_of_getElem? (i := 6) rfl)) (fun _ h9 => h9) rfl (tyX6_ok 3 (Nat.le_of_ble_eq_true rfl)) rfl rfl (Nat.le_of_ble_eq_true rfl) dX3_tellItem_153 (fun H locs hP hD hS => ?_)
    have h9R := zRe (ws' := [(rd, .inr (3, [.ref ri, .ref rl, .int rz, .int rc, .int rp, .int rf, .int rt, .int ru])), (ri, .inl (cI, 132, .inl fi)), (j0, .inr (0, [.ref z0, .ref jp, .ref jc, .int cn, .int de, .int tr, .int se, .int hu, .int sd])), (z0, .inr (6, [.ref zl, .ref zs, .int sz, .int x_2, .int gp])), (zl, .inl (cZ, 40, .inl fl)), (zs, .inl (cI, 40, .inl fs)), (jp, .inl (cP, 8, .inr (.inr (.inr (.inr fp))))), (jc, .inl (cI, 3, .inl fc))]) hP hD rfl
    clear hP hD
    obtain ⟨hP, hD⟩ := h9R
    refine lv_goto (tgt := 172) hx hb dX3_tellItem_156 (by decide) ?_
    refine W.widen (k := 1) (n := 3) (Nat.le_of_ble_eq_true rfl) (Nat.le_of_ble_eq_true rfl) ?_
    exact W.vret hx hb hr (fun t ht hW => ⟨⟨(de, se, hu, sz, x_2, gp, fl, fs, fc, cn, fp, kf, af, tf, []), rfl, ⟨(show 0 ≤ de.toInt ∧ de.toInt ≤ 24 from ⟨hy15, hy16⟩), (show 0 ≤ hu.toInt ∧ hu.toInt ≤ 9 from ⟨hy17, hy18⟩), (show 4 ≤ sz.toInt ∧ sz.toInt ≤ 40 from ⟨hy19, hy20⟩), (show 0 ≤ x_2.toInt ∧ x_2.toInt ≤ 40 from ⟨by omega, by omega⟩), (show 1 ≤ gp.toInt ∧ gp.toInt ≤ 9 from ⟨hy23, hy24⟩), hp_fl, hp_fs, hp_fc, (show 0 ≤ cn.toInt ∧ cn.toInt ≤ 8 from ⟨hy13, hy14⟩), (by intro z hz; simp at hz), (show zExt [] fp cn kf af tf fp cn kf af tf from by first | exact zExt.refl | assumption), (show ((fi slot.toInt.toNat).toInt = 3 → cn.toInt < 8 → cn.toInt = cn.toInt + 1) ∧ ((fi slot.toInt.toNat).toInt ≠ 3 → cn.toInt = cn.toInt) ∧ ((fi slot.toInt.toNat).toInt = 0 → sz.toInt = (fi (slot.toInt.toNat + 1)).toInt) ∧ ((fi slot.toInt.toNat).toInt ≠ 0 → sz.toInt = sz.toInt) from by (rw [← e0, ← e1]; refine ⟨?_, ?_, ?_, ?_⟩ <;> (intros; first | rfl | omega | (exfalso; omega) | (simp_all; done)))), (show (∀ j : Nat, j < 40 → fl j = zEl (zDS fi slot.toInt.toNat) fl j) from by (intro j hj; unfold zEl zDS; dsimp only; rw [← e0]; rw [if_neg (by omega), if_neg (by omega)])), (show (∀ j : Nat, j < 40 → fs j = zEs (zDS fi slot.toInt.toNat) fs j) from by (intro j hj; unfold zEs zDS; dsimp only; rw [← e0]; rw [if_neg (by omega), if_neg (by omega)])), (show (((fi slot.toInt.toNat).toInt = 3 → cn.toInt < 8) → kf = zEk (zDS fi slot.toInt.toNat) cn.toInt kf ∧ af = zEa (zDS fi slot.toInt.toNat) cn.toInt af ∧ tf = zEt (zDS fi slot.toInt.toNat) cn.toInt tf) from by (intro _; unfold zEk zEa zEt zDS; dsimp only; rw [← e0, if_neg (by omega), if_neg (by omega), if_neg (by omega)]; exact ⟨rfl, rfl, rfl⟩)), (show fc = zEc (zDS fi slot.toInt.toNat) fc from by (unfold zEc zDS; dsimp only; rw [← e0, if_neg (by omega)])), (show de.toInt = zEnu 4 (zDS fi slot.toInt.toNat) de.toInt ∧ se.toInt = zEnu 5 (zDS fi slot.toInt.toNat) se.toInt ∧ hu.toInt = zEnu 6 (zDS fi slot.toInt.toNat) hu.toInt ∧ gp.toInt = zEnu 7 (zDS fi slot.toInt.toNat) gp.toInt ∧ x_2.toInt = zEat (zDS fi slot.toInt.toNat) at_.toInt from by (unfold zEnu zEat zDS; dsimp only; rw [← e0, ← e1]; refine ⟨?_, ?_, ?_, ?_, ?_⟩ <;> ((repeat (first | rw [if_pos (by omega)] | rw [if_neg (by omega)])) <;> first | rfl | omega))), trivial⟩, zRet ht hP hD [0, 1, 2, 3, 4, 5, 6, 7] (by decide) rfl⟩, hS.F ht⟩) hS.2.2 dX3_tellItem_172
set_option maxHeartbeats 4000000 in
set_option maxRecDepth 100000 in
theorem c_F_R_tell (l : Launch) (D : va_G) (cI cJ cZ cP cS : ClassId) (po : zPool) (rd ri rl : Nat) (rz rc rp rf rt ru : Int32) (fi : Nat → Int32) (j0 jp jc z0 zl zs : Nat) (cn de tr se hu sd : Int32) (sz at_ gp : Int32) (fl fs : Nat → Int32) (fp : Nat → Option Nat) (kf af tf : Nat → Int32) (fc : Nat → Int32) (hy0 : 0 ≤ rz.toInt) (hy1 : rz.toInt ≤ 160) (hy2 : 0 ≤ rc.toInt) (hy3 : rc.toInt ≤ 40) (hy4 : 0 ≤ rp.toInt) (hy5 : rp.toInt ≤ 160) (hy6 : rp.toInt ≤ rz.toInt) (hy7 : (-1) ≤ rf.toInt) (hy8 : rf.toInt ≤ 160) (hy9 : 0 ≤ rt.toInt) (hy10 : rt.toInt ≤ 40) (hy11 : 0 ≤ ru.toInt) (hy12 : ru.toInt ≤ 8) (hy13 : 0 ≤ cn.toInt) (hy14 : cn.toInt ≤ 8) (hy15 : 0 ≤ de.toInt) (hy16 : de.toInt ≤ 24) (hy17 : 0 ≤ hu.toInt) (hy18 : hu.toInt ≤ 9) (hy19 : 4 ≤ sz.toInt) (hy20 : sz.toInt ≤ 40) (hy21 : 0 ≤ at_.toInt) (hy22 : at_.toInt ≤ 40) (hy23 : 1 ≤ gp.toInt) (hy24 : gp.toInt ≤ 9) (hy25 : 0 ≤ rc.toInt) (hy26 : rc.toInt ≤ 33) (hits : ∀ k : Nat, k < rc.toInt.toNat → zIt fi (4 * k)) (hcp : cn.toInt + zCP fi rc.toInt.toNat ≤ 8) (hp_fl : zRg fl (0) 1) (hp_fs : zRg fs (0) 9) (hp_fc : zRg fc (0) 99) (hpz : Nat) : Met l yX3_tell wsX3_tell ({ frames := 4, cells := 40, slots := 120, locals := 82 }) (va_Pc [.ref rd, .ref j0] (zW D (zKT cI cJ cZ cP cS) po [(rd, .inr (3, [.ref ri, .ref rl, .int rz, .int rc, .int rp, .int rf, .int rt, .int ru])), (ri, .inl (cI, 132, .inl fi)), (j0, .inr (0, [.ref z0, .ref jp, .ref jc, .int cn, .int de, .int tr, .int se, .int hu, .int sd])), (z0, .inr (6, [.ref zl, .ref zs, .int sz, .int at_, .int gp])), (zl, .inl (cZ, 40, .inl fl)), (zs, .inl (cI, 40, .inl fs)), (jp, .inl (cP, 8, .inr (.inr (.inr (.inr fp))))), (jc, .inl (cI, 3, .inl fc))] hpz)) (va_Qv (fun (u : (Int32) × (Int32) × (Int32) × (Int32) × (Int32) × (Int32) × (Nat → Int32) × (Nat → Int32) × (Nat → Int32) × (Int32) × (Nat → Option Nat) × (Nat → Int32) × (Nat → Int32) × (Nat → Int32) × (List (Nat × Int32 × Int32 × Int32))) => (0 ≤ u.1.toInt ∧ u.1.toInt ≤ 24) ∧ (0 ≤ u.2.2.1.toInt ∧ u.2.2.1.toInt ≤ 9) ∧ (4 ≤ u.2.2.2.1.toInt ∧ u.2.2.2.1.toInt ≤ 40) ∧ (0 ≤ u.2.2.2.2.1.toInt ∧ u.2.2.2.2.1.toInt ≤ 40) ∧ (1 ≤ u.2.2.2.2.2.1.toInt ∧ u.2.2.2.2.2.1.toInt ≤ 9) ∧ zRg u.2.2.2.2.2.2.1 (0) 1 ∧ zRg u.2.2.2.2.2.2.2.1 (0) 9 ∧ zRg u.2.2.2.2.2.2.2.2.1 (0) 99 ∧ (0 ≤ u.2.2.2.2.2.2.2.2.2.1.toInt ∧ u.2.2.2.2.2.2.2.2.2.1.toInt ≤ 8) ∧ (∀ z ∈ u.2.2.2.2.2.2.2.2.2.2.2.2.2.2, zPr z.2.1 z.2.2.1 z.2.2.2) ∧ (zExt u.2.2.2.2.2.2.2.2.2.2.2.2.2.2 fp cn kf af tf u.2.2.2.2.2.2.2.2.2.2.1 u.2.2.2.2.2.2.2.2.2.1 u.2.2.2.2.2.2.2.2.2.2.2.1 u.2.2.2.2.2.2.2.2.2.2.2.2.1 u.2.2.2.2.2.2.2.2.2.2.2.2.2.1) ∧ (u.2.2.2.2.2.2.2.2.2.1.toInt = cn.toInt + zCP fi rc.toInt.toNat) ∧ (u.2.2.2.1.toInt = zLT fi sz.toInt rc.toInt.toNat) ∧ ((∀ j : Nat, j < 40 → u.2.2.2.2.2.2.1 j = zRl (zDF fi) fl rc.toInt.toNat j)) ∧ ((∀ j : Nat, j < 40 → u.2.2.2.2.2.2.2.1 j = zRs (zDF fi) fs rc.toInt.toNat j)) ∧ ((u.2.2.2.2.2.2.2.2.2.2.2.1 = zRk (zDF fi) cn.toInt kf rc.toInt.toNat ∧ u.2.2.2.2.2.2.2.2.2.2.2.2.1 = zRa (zDF fi) cn.toInt af rc.toInt.toNat ∧ u.2.2.2.2.2.2.2.2.2.2.2.2.2.1 = zRt (zDF fi) cn.toInt tf rc.toInt.toNat)) ∧ (u.2.2.2.2.2.2.2.2.1 = zRc (zDF fi) fc rc.toInt.toNat) ∧ ((u.1.toInt = zRn 4 (zDF fi) de.toInt rc.toInt.toNat ∧ u.2.1.toInt = zRn 5 (zDF fi) se.toInt rc.toInt.toNat ∧ u.2.2.1.toInt = zRn 6 (zDF fi) hu.toInt rc.toInt.toNat ∧ u.2.2.2.2.2.1.toInt = zRn 7 (zDF fi) gp.toInt rc.toInt.toNat ∧ u.2.2.2.2.1.toInt = zRat (zDF fi) at_.toInt rc.toInt.toNat)) ∧ (True)) (zB D [(rd, .inr (3, [.ref ri, .ref rl, .int rz, .int rc, .int rp, .int rf, .int rt, .int ru])), (ri, .inl (cI, 132, .inl fi)), (j0, .inr (0, [.ref z0, .ref jp, .ref jc, .int cn, .int de, .int tr, .int se, .int hu, .int sd])), (z0, .inr (6, [.ref zl, .ref zs, .int sz, .int at_, .int gp])), (zl, .inl (cZ, 40, .inl fl)), (zs, .inl (cI, 40, .inl fs)), (jp, .inl (cP, 8, .inr (.inr (.inr (.inr fp))))), (jc, .inl (cI, 3, .inl fc))] hpz (fun (u : (Int32) × (Int32) × (Int32) × (Int32) × (Int32) × (Int32) × (Nat → Int32) × (Nat → Int32) × (Nat → Int32) × (Int32) × (Nat → Option Nat) × (Nat → Int32) × (Nat → Int32) × (Nat → Int32) × (List (Nat × Int32 × Int32 × Int32))) => ([(rd, .inr (3, [.ref ri, .ref rl, .int rz, .int rc, .int rp, .int rf, .int rt, .int ru])), (ri, .inl (cI, 132, .inl fi)), (j0, .inr (0, [.ref z0, .ref jp, .ref jc, .int u.2.2.2.2.2.2.2.2.2.1, .int u.1, .int tr, .int u.2.1, .int u.2.2.1, .int sd])), (z0, .inr (6, [.ref zl, .ref zs, .int u.2.2.2.1, .int u.2.2.2.2.1, .int u.2.2.2.2.2.1])), (zl, .inl (cZ, 40, .inl u.2.2.2.2.2.2.1)), (zs, .inl (cI, 40, .inl u.2.2.2.2.2.2.2.1)), (jp, .inl (cP, 8, .inr (.inr (.inr (.inr u.2.2.2.2.2.2.2.2.2.2.1))))), (jc, .inl (cI, 3, .inl u.2.2.2.2.2.2.2.2.1))] ++ u.2.2.2.2.2.2.2.2.2.2.2.2.2.2.map zPo))) (va_A [(rd, .inr (3, [.ref ri, .ref rl, .int rz, .int rc, .int rp, .int rf, .int rt, .int ru])), (ri, .inl (cI, 132, .inl fi)), (j0, .inr (0, [.ref z0, .ref jp, .ref jc, .int cn, .int de, .int tr, .int se, .int hu, .int sd])), (z0, .inr (6, [.ref zl, .ref zs, .int sz, .int at_, .int gp])), (zl, .inl (cZ, 40, .inl fl)), (zs, .inl (cI, 40, .inl fs)), (jp, .inl (cP, 8, .inr (.inr (.inr (.inr fp))))), (jc, .inl (cI, 3, .inl fc))] hpz)) 40 120 (va_A [(rd, .inr (3, [.ref ri, .ref rl, .int rz, .int rc, .int rp, .int rf, .int rt, .int ru])), (ri, .inl (cI, 132, .inl fi)), (j0, .inr (0, [.ref z0, .ref jp, .ref jc, .int cn, .int de, .int tr, .int se, .int hu, .int sd])), (z0, .inr (6, [.ref zl, .ref zs, .int sz, .int at_, .int gp])), (zl, .inl (cZ, 40, .inl fl)), (zs, .inl (cI, 40, .inl fs)), (jp, .inl (cP, 8, .inr (.inr (.inr (.inr fp))))), (jc, .inl (cI, 3, .inl fc))] hpz) := by
  refine Met.ofW (cc := cX3_tell) (maxL := 3) (ret := none) (by decide) rfl ?_
  intro p e s m args below meth c s₁ B hml hv
  obtain ⟨rfl, hsz, hP, hK, hD0, hN, hZ⟩ := hv
  have hx := B.exec
  have hb := B.bytes
  have hr := B.returns
  have hts := atoms_spec (ws := wsX3_tell) B.pre
  have hown : s.vm.findClass RX3 = some m.cls := findClass_of_methodNamed B.named
  have hlocks := B.notSynchronized
  subst hsz
  have hD := hD0.self (sz := s.heap.size)
  have hA := zA_of hD
  have hl := lv_entry ([.ref rd, .ref j0]) (n := 3) (Nat.le_of_ble_eq_true rfl)
  rw [lg_entry_eq]
  generalize (lg_sl ([.ref rd, .ref j0]) ++ List.replicate (3 - (lg_sl ([.ref rd, .ref j0])).length) Slot.unset).toArray = ls at hl ⊢
  replace hl : lv_has ls 3 [(0, .ref rd), (1, .ref j0)] := hl
  refine zw_begin hP hD (fun H locs hP1 hS => ?_)
  clear hP
  have hP := hP1
  clear hP1
  refine lv_iconst (v := 0) hx hb dX3_tell_0 (by decide) ?_
  refine lv_istore_n (lv' := [(2, .int 0), (0, .ref rd), (1, .ref j0)]) hx hb dX3_tell_1 rfl hl (by decide) rfl (fun ls hl => ?_)
  obtain ⟨i_2, hi_2⟩ : ∃ i : Int32, i = 0 := ⟨_, rfl⟩
  replace hl : lv_has ls 3 [(2, .int i_2), (0, .ref rd), (1, .ref j0)] := by rw [hi_2]; exact lv_sub hl [0, 1, 2] rfl
  have h1i_2 : i_2.toInt = 0 := by rw [hi_2]; decide
  obtain ⟨nfu, hni_2⟩ : ∃ nq9 : Nat, rc.toInt ≤ i_2.toInt + (nq9 : Int) := ⟨((rc.toInt : Int) - 0).toNat, by omega⟩
  have hloi_2 : 0 ≤ i_2.toInt := by omega
  obtain ⟨g_1, hg_1⟩ : ∃ g : Nat → Int32, g = fl := ⟨_, rfl⟩
  have hpg_1 : zRg g_1 (0) 1 := by rw [hg_1]; exact hp_fl
  obtain ⟨g_2, hg_2⟩ : ∃ g : Nat → Int32, g = fs := ⟨_, rfl⟩
  have hpg_2 : zRg g_2 (0) 9 := by rw [hg_2]; exact hp_fs
  obtain ⟨g_3, hg_3⟩ : ∃ g : Nat → Int32, g = fc := ⟨_, rfl⟩
  have hpg_3 : zRg g_3 (0) 99 := by rw [hg_3]; exact hp_fc
  obtain ⟨g_4, hg_4⟩ : ∃ g : Nat → Option Nat, g = fp := ⟨_, rfl⟩
  obtain ⟨v_5, hv_5⟩ : ∃ g : Int32, g = sz := ⟨_, rfl⟩
  have hbv_5 : 4 ≤ v_5.toInt ∧ v_5.toInt ≤ 40 := by rw [hv_5]; exact ⟨by omega, by omega⟩
  obtain ⟨v_6, hv_6⟩ : ∃ g : Int32, g = at_ := ⟨_, rfl⟩
  have hbv_6 : 0 ≤ v_6.toInt ∧ v_6.toInt ≤ 40 := by rw [hv_6]; exact ⟨by omega, by omega⟩
  obtain ⟨v_7, hv_7⟩ : ∃ g : Int32, g = gp := ⟨_, rfl⟩
  have hbv_7 : 1 ≤ v_7.toInt ∧ v_7.toInt ≤ 9 := by rw [hv_7]; exact ⟨by omega, by omega⟩
  obtain ⟨v_8, hv_8⟩ : ∃ g : Int32, g = cn := ⟨_, rfl⟩
  have hbv_8 : 0 ≤ v_8.toInt ∧ v_8.toInt ≤ 8 := by rw [hv_8]; exact ⟨by omega, by omega⟩
  obtain ⟨v_9, hv_9⟩ : ∃ g : Int32, g = de := ⟨_, rfl⟩
  have hbv_9 : 0 ≤ v_9.toInt ∧ v_9.toInt ≤ 24 := by rw [hv_9]; exact ⟨by omega, by omega⟩
  obtain ⟨v_10, hv_10⟩ : ∃ g : Int32, g = se := ⟨_, rfl⟩
  obtain ⟨v_11, hv_11⟩ : ∃ g : Int32, g = hu := ⟨_, rfl⟩
  have hbv_11 : 0 ≤ v_11.toInt ∧ v_11.toInt ≤ 9 := by rw [hv_11]; exact ⟨by omega, by omega⟩
  replace hP : va_P D vwCl [(rd, .inr (3, [.ref ri, .ref rl, .int rz, .int rc, .int rp, .int rf, .int rt, .int ru])), (ri, .inl (cI, 132, .inl fi)), (j0, .inr (0, [.ref z0, .ref jp, .ref jc, .int v_8, .int v_9, .int tr, .int v_10, .int v_11, .int sd])), (z0, .inr (6, [.ref zl, .ref zs, .int v_5, .int v_6, .int v_7])), (zl, .inl (cZ, 40, .inl g_1)), (zs, .inl (cI, 40, .inl g_2)), (jp, .inl (cP, 8, .inr (.inr (.inr (.inr g_4))))), (jc, .inl (cI, 3, .inl g_3))] H := by rw [hg_1, hg_2, hg_3, hg_4, hv_5, hv_6, hv_7, hv_8, hv_9, hv_10, hv_11]; exact hP
  replace hD : va_D (va_A [(rd, .inr (3, [.ref ri, .ref rl, .int rz, .int rc, .int rp, .int rf, .int rt, .int ru])), (ri, .inl (cI, 132, .inl fi)), (j0, .inr (0, [.ref z0, .ref jp, .ref jc, .int cn, .int de, .int tr, .int se, .int hu, .int sd])), (z0, .inr (6, [.ref zl, .ref zs, .int sz, .int at_, .int gp])), (zl, .inl (cZ, 40, .inl fl)), (zs, .inl (cI, 40, .inl fs)), (jp, .inl (cP, 8, .inr (.inr (.inr (.inr fp))))), (jc, .inl (cI, 3, .inl fc))] s.heap.size) [(rd, .inr (3, [.ref ri, .ref rl, .int rz, .int rc, .int rp, .int rf, .int rt, .int ru])), (ri, .inl (cI, 132, .inl fi)), (j0, .inr (0, [.ref z0, .ref jp, .ref jc, .int v_8, .int v_9, .int tr, .int v_10, .int v_11, .int sd])), (z0, .inr (6, [.ref zl, .ref zs, .int v_5, .int v_6, .int v_7])), (zl, .inl (cZ, 40, .inl g_1)), (zs, .inl (cI, 40, .inl g_2)), (jp, .inl (cP, 8, .inr (.inr (.inr (.inr g_4))))), (jc, .inl (cI, 3, .inl g_3))] := by rw [hg_1, hg_2, hg_3, hg_4, hv_5, hv_6, hv_7, hv_8, hv_9, hv_10, hv_11]; exact hD
  obtain ⟨g_12, hg_12⟩ : ∃ g : Nat → Int32, g = kf := ⟨_, rfl⟩
  obtain ⟨g_13, hg_13⟩ : ∃ g : Nat → Int32, g = af := ⟨_, rfl⟩
  obtain ⟨g_14, hg_14⟩ : ∃ g : Nat → Int32, g = tf := ⟨_, rfl⟩
  obtain ⟨tl, htl⟩ : ∃ z : List (Nat × Int32 × Int32 × Int32), z = [] := ⟨_, rfl⟩
  replace hP : va_P D vwCl ([(rd, .inr (3, [.ref ri, .ref rl, .int rz, .int rc, .int rp, .int rf, .int rt, .int ru])), (ri, .inl (cI, 132, .inl fi)), (j0, .inr (0, [.ref z0, .ref jp, .ref jc, .int v_8, .int v_9, .int tr, .int v_10, .int v_11, .int sd])), (z0, .inr (6, [.ref zl, .ref zs, .int v_5, .int v_6, .int v_7])), (zl, .inl (cZ, 40, .inl g_1)), (zs, .inl (cI, 40, .inl g_2)), (jp, .inl (cP, 8, .inr (.inr (.inr (.inr g_4))))), (jc, .inl (cI, 3, .inl g_3))] ++ (tl.map zPo)) H := by rw [htl]; exact hP
  replace hD : va_D (va_A [(rd, .inr (3, [.ref ri, .ref rl, .int rz, .int rc, .int rp, .int rf, .int rt, .int ru])), (ri, .inl (cI, 132, .inl fi)), (j0, .inr (0, [.ref z0, .ref jp, .ref jc, .int cn, .int de, .int tr, .int se, .int hu, .int sd])), (z0, .inr (6, [.ref zl, .ref zs, .int sz, .int at_, .int gp])), (zl, .inl (cZ, 40, .inl fl)), (zs, .inl (cI, 40, .inl fs)), (jp, .inl (cP, 8, .inr (.inr (.inr (.inr fp))))), (jc, .inl (cI, 3, .inl fc))] s.heap.size) ([(rd, .inr (3, [.ref ri, .ref rl, .int rz, .int rc, .int rp, .int rf, .int rt, .int ru])), (ri, .inl (cI, 132, .inl fi)), (j0, .inr (0, [.ref z0, .ref jp, .ref jc, .int v_8, .int v_9, .int tr, .int v_10, .int v_11, .int sd])), (z0, .inr (6, [.ref zl, .ref zs, .int v_5, .int v_6, .int v_7])), (zl, .inl (cZ, 40, .inl g_1)), (zs, .inl (cI, 40, .inl g_2)), (jp, .inl (cP, 8, .inr (.inr (.inr (.inr g_4))))), (jc, .inl (cI, 3, .inl g_3))] ++ (tl.map zPo)) := by rw [htl]; exact hD
  have htp : ∀ z ∈ tl, zPr z.2.1 z.2.2.1 z.2.2.2 := by rw [htl]; intro z hz; simp at hz
  refine zcells (fun kc ks hkc hks => ?_)
  have hkc1 : (kc : Int) ≤ i_2.toInt := by omega
  have hks1 : (ks : Int) ≤ 3 * i_2.toInt := by omega
  have hvi_2_0 : zExt tl fp cn kf af tf g_4 (v_8 : Int32) g_12 g_13 g_14 := by
    (try rw [hi_2]); (try rw [hg_1]); (try rw [hg_2]); (try rw [hg_3]); (try rw [hg_4]); (try rw [hv_5]); (try rw [hv_6]); (try rw [hv_7]); (try rw [hv_8]); (try rw [hv_9]); (try rw [hv_10]); (try rw [hv_11]); (try rw [hg_12]); (try rw [hg_13]); (try rw [hg_14]); (try rw [htl]); exact zExt.refl
  have hvi_2_1 : i_2.toInt ≤ rc.toInt := by
    (try rw [hi_2]); (try rw [hg_1]); (try rw [hg_2]); (try rw [hg_3]); (try rw [hg_4]); (try rw [hv_5]); (try rw [hv_6]); (try rw [hv_7]); (try rw [hv_8]); (try rw [hv_9]); (try rw [hv_10]); (try rw [hv_11]); (try rw [hg_12]); (try rw [hg_13]); (try rw [hg_14]); (try rw [htl]); first | omega | (simp; omega)
  have hvi_2_2 : (v_8 : Int32).toInt = cn.toInt + zCP fi i_2.toInt.toNat := by
    (try rw [hi_2]); (try rw [hg_1]); (try rw [hg_2]); (try rw [hg_3]); (try rw [hg_4]); (try rw [hv_5]); (try rw [hv_6]); (try rw [hv_7]); (try rw [hv_8]); (try rw [hv_9]); (try rw [hv_10]); (try rw [hv_11]); (try rw [hg_12]); (try rw [hg_13]); (try rw [hg_14]); (try rw [htl]); (rw [show ((0 : Int32).toInt.toNat) = 0 from by decide]; first | (unfold zCP; omega) | (simp [zCP]; done) | (simp [zCP]; omega))
  have hvi_2_3 : (v_5 : Int32).toInt = zLT fi sz.toInt i_2.toInt.toNat := by
    (try rw [hi_2]); (try rw [hg_1]); (try rw [hg_2]); (try rw [hg_3]); (try rw [hg_4]); (try rw [hv_5]); (try rw [hv_6]); (try rw [hv_7]); (try rw [hv_8]); (try rw [hv_9]); (try rw [hv_10]); (try rw [hv_11]); (try rw [hg_12]); (try rw [hg_13]); (try rw [hg_14]); (try rw [htl]); (rw [show ((0 : Int32).toInt.toNat) = 0 from by decide]; rfl)
  have hvi_2_4 : (∀ j : Nat, j < 40 → g_1 j = zRl (zDF fi) fl i_2.toInt.toNat j) := by
    (try rw [hi_2]); (try rw [hg_1]); (try rw [hg_2]); (try rw [hg_3]); (try rw [hg_4]); (try rw [hv_5]); (try rw [hv_6]); (try rw [hv_7]); (try rw [hv_8]); (try rw [hv_9]); (try rw [hv_10]); (try rw [hv_11]); (try rw [hg_12]); (try rw [hg_13]); (try rw [hg_14]); (try rw [htl]); (intro j hj; rw [(show ((0 : Int32).toInt.toNat) = 0 from by decide)]; rfl)
  have hvi_2_5 : (∀ j : Nat, j < 40 → g_2 j = zRs (zDF fi) fs i_2.toInt.toNat j) := by
    (try rw [hi_2]); (try rw [hg_1]); (try rw [hg_2]); (try rw [hg_3]); (try rw [hg_4]); (try rw [hv_5]); (try rw [hv_6]); (try rw [hv_7]); (try rw [hv_8]); (try rw [hv_9]); (try rw [hv_10]); (try rw [hv_11]); (try rw [hg_12]); (try rw [hg_13]); (try rw [hg_14]); (try rw [htl]); (intro j hj; rw [(show ((0 : Int32).toInt.toNat) = 0 from by decide)]; rfl)
  have hvi_2_6 : (g_12 = zRk (zDF fi) cn.toInt kf i_2.toInt.toNat ∧ g_13 = zRa (zDF fi) cn.toInt af i_2.toInt.toNat ∧ g_14 = zRt (zDF fi) cn.toInt tf i_2.toInt.toNat) := by
    (try rw [hi_2]); (try rw [hg_1]); (try rw [hg_2]); (try rw [hg_3]); (try rw [hg_4]); (try rw [hv_5]); (try rw [hv_6]); (try rw [hv_7]); (try rw [hv_8]); (try rw [hv_9]); (try rw [hv_10]); (try rw [hv_11]); (try rw [hg_12]); (try rw [hg_13]); (try rw [hg_14]); (try rw [htl]); (rw [(show ((0 : Int32).toInt.toNat) = 0 from by decide)]; exact ⟨rfl, rfl, rfl⟩)
  have hvi_2_7 : g_3 = zRc (zDF fi) fc i_2.toInt.toNat := by
    (try rw [hi_2]); (try rw [hg_1]); (try rw [hg_2]); (try rw [hg_3]); (try rw [hg_4]); (try rw [hv_5]); (try rw [hv_6]); (try rw [hv_7]); (try rw [hv_8]); (try rw [hv_9]); (try rw [hv_10]); (try rw [hv_11]); (try rw [hg_12]); (try rw [hg_13]); (try rw [hg_14]); (try rw [htl]); (rw [(show ((0 : Int32).toInt.toNat) = 0 from by decide)]; rfl)
  have hvi_2_8 : ((v_9 : Int32).toInt = zRn 4 (zDF fi) de.toInt i_2.toInt.toNat ∧ (v_10 : Int32).toInt = zRn 5 (zDF fi) se.toInt i_2.toInt.toNat ∧ (v_11 : Int32).toInt = zRn 6 (zDF fi) hu.toInt i_2.toInt.toNat ∧ (v_7 : Int32).toInt = zRn 7 (zDF fi) gp.toInt i_2.toInt.toNat ∧ (v_6 : Int32).toInt = zRat (zDF fi) at_.toInt i_2.toInt.toNat) := by
    (try rw [hi_2]); (try rw [hg_1]); (try rw [hg_2]); (try rw [hg_3]); (try rw [hg_4]); (try rw [hv_5]); (try rw [hv_6]); (try rw [hv_7]); (try rw [hv_8]); (try rw [hv_9]); (try rw [hv_10]); (try rw [hv_11]); (try rw [hg_12]); (try rw [hg_13]); (try rw [hg_14]); (try rw [htl]); (rw [(show ((0 : Int32).toInt.toNat) = 0 from by decide)]; exact ⟨rfl, rfl, rfl, rfl, rfl⟩)
  clear h1i_2 hi_2 hg_1 hg_2 hg_3 hg_4 hv_5 hv_6 hv_7 hv_8 hv_9 hv_10 hv_11 hg_12 hg_13 hg_14 htl hkc hks
  skip
  revert hni_2
  revert hloi_2
  revert hvi_2_8
  revert hvi_2_7
  revert hvi_2_6
  revert hvi_2_5
  revert hvi_2_4
  revert hvi_2_3
  revert hvi_2_2
  revert hvi_2_1
  revert hvi_2_0
  revert hbv_11
  revert hbv_9
  revert hbv_8
  revert hbv_7
  revert hbv_6
  revert hbv_5
  revert hpg_3
  revert hpg_2
  revert hpg_1
  revert hks1
  revert hkc1
  revert htp
  revert hl
  revert hS
  revert hD
  revert hP
  revert ls
  revert ks
  revert kc
  revert tl
  revert locs
  revert H
  revert g_1
  revert g_2
  revert g_3
  revert g_4
  revert v_5
  revert v_6
  revert v_7
  revert v_8
  revert v_9
  revert v_10
  revert v_11
  revert g_12
  revert g_13
  revert g_14
  revert i_2
  induction nfu with
  | zero =>
    intro i_2 g_14 g_13 g_12 v_11 v_10 v_9 v_8 v_7 v_6 v_5 g_4 g_3 g_2 g_1 H locs tl kc ks ls hP hD hS hl htp hkc1 hks1 hpg_1 hpg_2 hpg_3 hbv_5 hbv_6 hbv_7 hbv_8 hbv_9 hbv_11 hvi_2_0 hvi_2_1 hvi_2_2 hvi_2_3 hvi_2_4 hvi_2_5 hvi_2_6 hvi_2_7 hvi_2_8 hloi_2 hni_2
    have hzi_2 : rc.toInt ≤ i_2.toInt := by omega
    refine lv_iload_n hx hb dX3_tell_2 rfl (lv_at hl 0 rfl) ?_
    refine lv_aload_n hx hb dX3_tell_3 rfl (lv_at hl 1 rfl) ?_
    refine va_get (D := D) (ci := 3) (v := .int rc) (C := RX3) (T := TX3) (N := 8) hx hb hts hi_X3_tell_3 hown hK hP 0 rfl rfl 3 (by decide) (hts (.fieldLink RX3 22 "TheLiningsInIt$Reader" "count" "I") (List.mem_of_getElem? (i := 1) rfl)) (fun _ h9 => h9) rfl dX3_tell_4 ?_
    refine lv_icmp_ge (tgt := 24) hx hb dX3_tell_7 (by decide) (fun c_15 => ?_) (fun c_15 => ?_)
    · have fc_15 : rc.toInt ≤ i_2.toInt := zf_le c_15 rfl rfl
      refine W.widen (k := 40) (n := 120) (by omega) (by omega) ?_
      exact W.vret hx hb hr (fun t ht hW => ⟨⟨(v_9, v_10, v_11, v_5, v_6, v_7, g_1, g_2, g_3, v_8, g_4, g_12, g_13, g_14, tl), rfl, ⟨(show 0 ≤ v_9.toInt ∧ v_9.toInt ≤ 24 from hbv_9), (show 0 ≤ v_11.toInt ∧ v_11.toInt ≤ 9 from hbv_11), (show 4 ≤ v_5.toInt ∧ v_5.toInt ≤ 40 from hbv_5), (show 0 ≤ v_6.toInt ∧ v_6.toInt ≤ 40 from hbv_6), (show 1 ≤ v_7.toInt ∧ v_7.toInt ≤ 9 from hbv_7), hpg_1, hpg_2, hpg_3, (show 0 ≤ v_8.toInt ∧ v_8.toInt ≤ 8 from hbv_8), htp, (show zExt tl fp cn kf af tf g_4 v_8 g_12 g_13 g_14 from by assumption), (show v_8.toInt = cn.toInt + zCP fi rc.toInt.toNat from by (have h9 : i_2.toInt.toNat = rc.toInt.toNat := (by omega); have z := hvi_2_2; rw [h9] at z; exact z)), (show v_5.toInt = zLT fi sz.toInt rc.toInt.toNat from by (have h9 : i_2.toInt.toNat = rc.toInt.toNat := (by omega); have z := hvi_2_3; rw [h9] at z; exact z)), (show (∀ j : Nat, j < 40 → g_1 j = zRl (zDF fi) fl rc.toInt.toNat j) from by (have h9 : i_2.toInt.toNat = rc.toInt.toNat := (by omega); have z := hvi_2_4; rw [h9] at z; exact z)), (show (∀ j : Nat, j < 40 → g_2 j = zRs (zDF fi) fs rc.toInt.toNat j) from by (have h9 : i_2.toInt.toNat = rc.toInt.toNat := (by omega); have z := hvi_2_5; rw [h9] at z; exact z)), (show (g_12 = zRk (zDF fi) cn.toInt kf rc.toInt.toNat ∧ g_13 = zRa (zDF fi) cn.toInt af rc.toInt.toNat ∧ g_14 = zRt (zDF fi) cn.toInt tf rc.toInt.toNat) from by (have h9 : i_2.toInt.toNat = rc.toInt.toNat := (by omega); have z := hvi_2_6; rw [h9] at z; exact z)), (show g_3 = zRc (zDF fi) fc rc.toInt.toNat from by (have h9 : i_2.toInt.toNat = rc.toInt.toNat := (by omega); have z := hvi_2_7; rw [h9] at z; exact z)), (show (v_9.toInt = zRn 4 (zDF fi) de.toInt rc.toInt.toNat ∧ v_10.toInt = zRn 5 (zDF fi) se.toInt rc.toInt.toNat ∧ v_11.toInt = zRn 6 (zDF fi) hu.toInt rc.toInt.toNat ∧ v_7.toInt = zRn 7 (zDF fi) gp.toInt rc.toInt.toNat ∧ v_6.toInt = zRat (zDF fi) at_.toInt rc.toInt.toNat) from by (have h9 : i_2.toInt.toNat = rc.toInt.toNat := (by omega); have z := hvi_2_8; rw [h9] at z; exact z)), trivial⟩, by rw [ht]; exact hP.part (cx := [(rd, .inr (3, [.ref ri, .ref rl, .int rz, .int rc, .int rp, .int rf, .int rt, .int ru])), (ri, .inl (cI, 132, .inl fi)), (j0, .inr (0, [.ref z0, .ref jp, .ref jc, .int v_8, .int v_9, .int tr, .int v_10, .int v_11, .int sd])), (z0, .inr (6, [.ref zl, .ref zs, .int v_5, .int v_6, .int v_7])), (zl, .inl (cZ, 40, .inl g_1)), (zs, .inl (cI, 40, .inl g_2)), (jp, .inl (cP, 8, .inr (.inr (.inr (.inr g_4))))), (jc, .inl (cI, 3, .inl g_3))]) (pl := (tl.map zPo)) [0, 1, 2, 3, 4, 5, 6, 7] rfl, hD.part (cx := [(rd, .inr (3, [.ref ri, .ref rl, .int rz, .int rc, .int rp, .int rf, .int rt, .int ru])), (ri, .inl (cI, 132, .inl fi)), (j0, .inr (0, [.ref z0, .ref jp, .ref jc, .int v_8, .int v_9, .int tr, .int v_10, .int v_11, .int sd])), (z0, .inr (6, [.ref zl, .ref zs, .int v_5, .int v_6, .int v_7])), (zl, .inl (cZ, 40, .inl g_1)), (zs, .inl (cI, 40, .inl g_2)), (jp, .inl (cP, 8, .inr (.inr (.inr (.inr g_4))))), (jc, .inl (cI, 3, .inl g_3))]) (pl := (tl.map zPo)) [0, 1, 2, 3, 4, 5, 6, 7] (by decide) rfl⟩, hS.F ht⟩) hS.2.2 dX3_tell_24
    · exfalso; have fc_15 : i_2.toInt < rc.toInt := zf_nle c_15 rfl rfl; omega
  | succ nfu ih =>
    intro i_2 g_14 g_13 g_12 v_11 v_10 v_9 v_8 v_7 v_6 v_5 g_4 g_3 g_2 g_1 H locs tl kc ks ls hP hD hS hl htp hkc1 hks1 hpg_1 hpg_2 hpg_3 hbv_5 hbv_6 hbv_7 hbv_8 hbv_9 hbv_11 hvi_2_0 hvi_2_1 hvi_2_2 hvi_2_3 hvi_2_4 hvi_2_5 hvi_2_6 hvi_2_7 hvi_2_8 hloi_2 hni_2
    refine lv_iload_n hx hb dX3_tell_2 rfl (lv_at hl 0 rfl) ?_
    refine lv_aload_n hx hb dX3_tell_3 rfl (lv_at hl 1 rfl) ?_
    refine va_get (D := D) (ci := 3) (v := .int rc) (C := RX3) (T := TX3) (N := 8) hx hb hts hi_X3_tell_3 hown hK hP 0 rfl rfl 3 (by decide) (hts (.fieldLink RX3 22 "TheLiningsInIt$Reader" "count" "I") (List.mem_of_getElem? (i := 1) rfl)) (fun _ h9 => h9) rfl dX3_tell_4 ?_
    refine lv_icmp_ge (tgt := 24) hx hb dX3_tell_7 (by decide) (fun c_16 => ?_) (fun c_16 => ?_)
    · have fc_16 : rc.toInt ≤ i_2.toInt := zf_le c_16 rfl rfl
      refine W.widen (k := 40) (n := 120) (by omega) (by omega) ?_
      exact W.vret hx hb hr (fun t ht hW => ⟨⟨(v_9, v_10, v_11, v_5, v_6, v_7, g_1, g_2, g_3, v_8, g_4, g_12, g_13, g_14, tl), rfl, ⟨(show 0 ≤ v_9.toInt ∧ v_9.toInt ≤ 24 from hbv_9), (show 0 ≤ v_11.toInt ∧ v_11.toInt ≤ 9 from hbv_11), (show 4 ≤ v_5.toInt ∧ v_5.toInt ≤ 40 from hbv_5), (show 0 ≤ v_6.toInt ∧ v_6.toInt ≤ 40 from hbv_6), (show 1 ≤ v_7.toInt ∧ v_7.toInt ≤ 9 from hbv_7), hpg_1, hpg_2, hpg_3, (show 0 ≤ v_8.toInt ∧ v_8.toInt ≤ 8 from hbv_8), htp, (show zExt tl fp cn kf af tf g_4 v_8 g_12 g_13 g_14 from by assumption), (show v_8.toInt = cn.toInt + zCP fi rc.toInt.toNat from by (have h9 : i_2.toInt.toNat = rc.toInt.toNat := (by omega); have z := hvi_2_2; rw [h9] at z; exact z)), (show v_5.toInt = zLT fi sz.toInt rc.toInt.toNat from by (have h9 : i_2.toInt.toNat = rc.toInt.toNat := (by omega); have z := hvi_2_3; rw [h9] at z; exact z)), (show (∀ j : Nat, j < 40 → g_1 j = zRl (zDF fi) fl rc.toInt.toNat j) from by (have h9 : i_2.toInt.toNat = rc.toInt.toNat := (by omega); have z := hvi_2_4; rw [h9] at z; exact z)), (show (∀ j : Nat, j < 40 → g_2 j = zRs (zDF fi) fs rc.toInt.toNat j) from by (have h9 : i_2.toInt.toNat = rc.toInt.toNat := (by omega); have z := hvi_2_5; rw [h9] at z; exact z)), (show (g_12 = zRk (zDF fi) cn.toInt kf rc.toInt.toNat ∧ g_13 = zRa (zDF fi) cn.toInt af rc.toInt.toNat ∧ g_14 = zRt (zDF fi) cn.toInt tf rc.toInt.toNat) from by (have h9 : i_2.toInt.toNat = rc.toInt.toNat := (by omega); have z := hvi_2_6; rw [h9] at z; exact z)), (show g_3 = zRc (zDF fi) fc rc.toInt.toNat from by (have h9 : i_2.toInt.toNat = rc.toInt.toNat := (by omega); have z := hvi_2_7; rw [h9] at z; exact z)), (show (v_9.toInt = zRn 4 (zDF fi) de.toInt rc.toInt.toNat ∧ v_10.toInt = zRn 5 (zDF fi) se.toInt rc.toInt.toNat ∧ v_11.toInt = zRn 6 (zDF fi) hu.toInt rc.toInt.toNat ∧ v_7.toInt = zRn 7 (zDF fi) gp.toInt rc.toInt.toNat ∧ v_6.toInt = zRat (zDF fi) at_.toInt rc.toInt.toNat) from by (have h9 : i_2.toInt.toNat = rc.toInt.toNat := (by omega); have z := hvi_2_8; rw [h9] at z; exact z)), trivial⟩, by rw [ht]; exact hP.part (cx := [(rd, .inr (3, [.ref ri, .ref rl, .int rz, .int rc, .int rp, .int rf, .int rt, .int ru])), (ri, .inl (cI, 132, .inl fi)), (j0, .inr (0, [.ref z0, .ref jp, .ref jc, .int v_8, .int v_9, .int tr, .int v_10, .int v_11, .int sd])), (z0, .inr (6, [.ref zl, .ref zs, .int v_5, .int v_6, .int v_7])), (zl, .inl (cZ, 40, .inl g_1)), (zs, .inl (cI, 40, .inl g_2)), (jp, .inl (cP, 8, .inr (.inr (.inr (.inr g_4))))), (jc, .inl (cI, 3, .inl g_3))]) (pl := (tl.map zPo)) [0, 1, 2, 3, 4, 5, 6, 7] rfl, hD.part (cx := [(rd, .inr (3, [.ref ri, .ref rl, .int rz, .int rc, .int rp, .int rf, .int rt, .int ru])), (ri, .inl (cI, 132, .inl fi)), (j0, .inr (0, [.ref z0, .ref jp, .ref jc, .int v_8, .int v_9, .int tr, .int v_10, .int v_11, .int sd])), (z0, .inr (6, [.ref zl, .ref zs, .int v_5, .int v_6, .int v_7])), (zl, .inl (cZ, 40, .inl g_1)), (zs, .inl (cI, 40, .inl g_2)), (jp, .inl (cP, 8, .inr (.inr (.inr (.inr g_4))))), (jc, .inl (cI, 3, .inl g_3))]) (pl := (tl.map zPo)) [0, 1, 2, 3, 4, 5, 6, 7] (by decide) rfl⟩, hS.F ht⟩) hS.2.2 dX3_tell_24
    · have fc_16 : i_2.toInt < rc.toInt := zf_nle c_16 rfl rfl
      refine lv_aload_n hx hb dX3_tell_10 rfl (lv_at hl 1 rfl) ?_
      refine lv_aload_n hx hb dX3_tell_11 rfl (lv_at hl 2 rfl) ?_
      refine lv_iload_n hx hb dX3_tell_12 rfl (lv_at hl 0 rfl) ?_
      refine lv_iconst (v := 4) hx hb dX3_tell_13 (by decide) ?_
      refine lv_imul hx hb dX3_tell_14 ?_
      refine lv_topi (fun x_17 ex_17 => ?_)
      have qx_17 : x_17.toInt = i_2.toInt * 4 := by rw [ex_17]; exact zf_mul rfl (by decide) (by omega) (by omega)
      skip
      refine zt_Vv (As := [.ref j0, .int x_17]) (rest := []) (ws := [(rd, .inr (3, [.ref ri, .ref rl, .int rz, .int rc, .int rp, .int rf, .int rt, .int ru])), (ri, .inl (cI, 132, .inl fi)), (j0, .inr (0, [.ref z0, .ref jp, .ref jc, .int v_8, .int v_9, .int tr, .int v_10, .int v_11, .int sd])), (z0, .inr (6, [.ref zl, .ref zs, .int v_5, .int v_6, .int v_7])), (zl, .inl (cZ, 40, .inl g_1)), (zs, .inl (cI, 40, .inl g_2)), (jp, .inl (cP, 8, .inr (.inr (.inr (.inr g_4))))), (jc, .inl (cI, 3, .inl g_3))]) (wr := []) ⟨hx, hb, hml, hown, hts⟩ (c_F_R_tellItem l D cI cJ cZ cP cS po rd ri rl (rz) (rc) (rp) (rf) (rt) (ru) fi j0 jp jc z0 zl zs (v_8) (v_9) (tr) (v_10) (v_11) (sd) (v_5) (v_6) (v_7) g_1 g_2 g_4 g_12 g_13 g_14 g_3 (x_17) hy0 hy1 hy2 hy3 hy4 hy5 (by omega) hy7 hy8 hy9 hy10 hy11 hy12 hbv_8.1 hbv_8.2 hbv_9.1 hbv_9.2 hbv_11.1 hbv_11.2 hbv_5.1 hbv_5.2 hbv_6.1 hbv_6.2 hbv_7.1 hbv_7.2 (by omega) (by omega) (by have z := hits i_2.toInt.toNat (by omega); rw [show 4 * i_2.toInt.toNat = x_17.toInt.toNat from by omega] at z; exact z) hpg_1 hpg_2 hpg_3 H.size) (cwV 2 hts gX3_tell_X3_tellItem rfl rfl rfl ⟨rfl, dh_X3_tellItem⟩ ⟨Nat.le_of_ble_eq_true rfl, Nat.le_of_ble_eq_true rfl⟩) hK hN hP hD hS hA [0, 1, 2, 3, 4, 5, 6, 7] [] rfl rfl (by decide) (by decide) (by decide) ((hZ.kept hS).narrow (zt_free hD hS hA (ws := [(rd, .inr (3, [.ref ri, .ref rl, .int rz, .int rc, .int rp, .int rf, .int rt, .int ru])), (ri, .inl (cI, 132, .inl fi)), (j0, .inr (0, [.ref z0, .ref jp, .ref jc, .int v_8, .int v_9, .int tr, .int v_10, .int v_11, .int sd])), (z0, .inr (6, [.ref zl, .ref zs, .int v_5, .int v_6, .int v_7])), (zl, .inl (cZ, 40, .inl g_1)), (zs, .inl (cI, 40, .inl g_2)), (jp, .inl (cP, 8, .inr (.inr (.inr (.inr g_4))))), (jc, .inl (cI, 3, .inl g_3))]) (isC := [0, 1, 2, 3, 4, 5, 6, 7]) rfl)) (va_recv (q := (RX3, TX3, 8)) hK hP (ci := 3) (q0 := 0) rfl rfl) rfl hl.1 rfl (Nat.le_of_ble_eq_true rfl) dX3_tell_15 ⟨by (show kc + 1 ≤ 40; omega), by (show ks + 3 ≤ 120; omega)⟩ (fun u_19 H locs hr_18 hP hD hS => ?_)
      obtain ⟨q_20, q_21, q_22, q_23, q_24, q_25, q_26, q_27, q_28, q_29, q_30, q_31, q_32, q_33, q_34⟩ := u_19
      try dsimp only at hr_18
      obtain ⟨hbq_20, hbq_22, hbq_23, hbq_24, hbq_25, hpq_26, hpq_27, hpq_28, hbq_29, hnpq_34, hsr_18_0, hsr_18_1, hsr_18_2, hsr_18_3, hsr_18_4, hsr_18_5, hsr_18_6, hr_18⟩ := hr_18
      have hnqq_34 : ∀ z ∈ q_34 ++ tl, zPr z.2.1 z.2.2.1 z.2.2.2 := fun z hz => (List.mem_append.mp hz).elim (hnpq_34 z) (htp z)
      rw [zT_app] at hP hD
      have h9R := zRe (ws' := ([(rd, .inr (3, [.ref ri, .ref rl, .int rz, .int rc, .int rp, .int rf, .int rt, .int ru])), (ri, .inl (cI, 132, .inl fi)), (j0, .inr (0, [.ref z0, .ref jp, .ref jc, .int q_29, .int q_20, .int tr, .int q_21, .int q_22, .int sd])), (z0, .inr (6, [.ref zl, .ref zs, .int q_23, .int q_24, .int q_25])), (zl, .inl (cZ, 40, .inl q_26)), (zs, .inl (cI, 40, .inl q_27)), (jp, .inl (cP, 8, .inr (.inr (.inr (.inr q_30))))), (jc, .inl (cI, 3, .inl q_28))] ++ ((q_34 ++ tl).map zPo))) hP hD rfl
      clear hP hD
      obtain ⟨hP, hD⟩ := h9R
      obtain ⟨x_35, ex_35⟩ : ∃ y : Int32, y = i_2 + 1 := ⟨_, rfl⟩
      have qx_35 : x_35.toInt = i_2.toInt + 1 := dw_inc ex_35 fc_16
      refine lv_iinc (v := x_35) (lv' := [(2, .int x_35), (0, .ref rd), (1, .ref j0)]) hx hb dX3_tell_18 hl (k := 0) rfl ex_35.symm (by decide) rfl (fun ls hl => ?_)
      refine lv_goto (tgt := 2) hx hb dX3_tell_21 (by decide) ?_
      exact ih x_35 q_33 q_32 q_31 (q_22) (q_21) (q_20) (q_29) (q_25) (q_24) (q_23) (q_30) (q_28) (q_27) (q_26) _ _ (q_34 ++ tl) _ _ _ (hP.part [0, 1, 2, 3, 4, 5, 6, 7] rfl) (hD.part [0, 1, 2, 3, 4, 5, 6, 7] (by decide) rfl) hS (lv_sub hl [0, 1, 2] rfl) hnqq_34 (by omega) (by omega) hpq_26 hpq_27 hpq_28 hbq_23 hbq_24 hbq_25 hbq_29 hbq_20 hbq_22 (show zExt (q_34 ++ tl) fp cn kf af tf q_30 (q_29 : Int32) q_31 q_32 q_33 from by exact hvi_2_0.trans hsr_18_0) (show x_35.toInt ≤ rc.toInt from by omega) (show (q_29 : Int32).toInt = cn.toInt + zCP fi x_35.toInt.toNat from by (have z := hsr_18_1; have e4 : x_17.toInt.toNat = 4 * i_2.toInt.toNat := (by omega); rw [e4] at z; have hc := hvi_2_2; exact zCP_S (g := fi) (n := i_2.toInt.toNat) (i := i_2.toInt) (by omega) (by omega) (fun _ _ => rfl) hc (fun h => z.1 h (by have z2 := zCP_le hcp (n := i_2.toInt.toNat) (by omega) h; omega)) z.2.1)) (show (q_23 : Int32).toInt = zLT fi sz.toInt x_35.toInt.toNat from by (have z := hsr_18_1; have e4 : x_17.toInt.toNat = 4 * i_2.toInt.toNat := (by omega); rw [e4] at z; exact zLT_S (g := fi) (n := i_2.toInt.toNat) (i := i_2.toInt) (by omega) (by omega) (fun _ _ => rfl) hvi_2_3 z.2.2.1 z.2.2.2)) (show (∀ j : Nat, j < 40 → q_26 j = zRl (zDF fi) fl x_35.toInt.toNat j) from by (have e4 : x_17.toInt.toNat = 4 * i_2.toInt.toNat := (by omega); have z := hsr_18_2; rw [e4] at z; rw [show x_35.toInt.toNat = i_2.toInt.toNat + 1 from by omega]; intro j hj; rw [z j hj]; exact zEl_sm zSm.rfl hvi_2_4 j hj)) (show (∀ j : Nat, j < 40 → q_27 j = zRs (zDF fi) fs x_35.toInt.toNat j) from by (have e4 : x_17.toInt.toNat = 4 * i_2.toInt.toNat := (by omega); have z := hsr_18_3; rw [e4] at z; rw [show x_35.toInt.toNat = i_2.toInt.toNat + 1 from by omega]; intro j hj; rw [z j hj]; exact zEs_sm zSm.rfl hvi_2_5 j hj)) (show (q_31 = zRk (zDF fi) cn.toInt kf x_35.toInt.toNat ∧ q_32 = zRa (zDF fi) cn.toInt af x_35.toInt.toNat ∧ q_33 = zRt (zDF fi) cn.toInt tf x_35.toInt.toNat) from by (have e4 : x_17.toInt.toNat = 4 * i_2.toInt.toNat := (by omega); have z := hsr_18_4; rw [e4] at z; have hc := hvi_2_2; obtain ⟨z1, z2, z3⟩ := z (fun h => by (have z2 := zCP_le hcp (n := i_2.toInt.toNat) (by omega) h; omega)); rw [show x_35.toInt.toNat = i_2.toInt.toNat + 1 from by omega]; obtain ⟨y1, y2, y3⟩ := hvi_2_6; have hq : zNp (zDF fi) cn.toInt i_2.toInt.toNat = v_8.toInt := (by rw [zNp_CP, hc]); refine ⟨?_, ?_, ?_⟩; (rw [z1, y1, ← hq]; rfl); (rw [z2, y2, ← hq]; rfl); (rw [z3, y3, ← hq]; rfl))) (show q_28 = zRc (zDF fi) fc x_35.toInt.toNat from by (have e4 : x_17.toInt.toNat = 4 * i_2.toInt.toNat := (by omega); have z := hsr_18_5; rw [e4] at z; rw [show x_35.toInt.toNat = i_2.toInt.toNat + 1 from by omega]; rw [z, hvi_2_7]; rfl)) (show ((q_20 : Int32).toInt = zRn 4 (zDF fi) de.toInt x_35.toInt.toNat ∧ (q_21 : Int32).toInt = zRn 5 (zDF fi) se.toInt x_35.toInt.toNat ∧ (q_22 : Int32).toInt = zRn 6 (zDF fi) hu.toInt x_35.toInt.toNat ∧ (q_25 : Int32).toInt = zRn 7 (zDF fi) gp.toInt x_35.toInt.toNat ∧ (q_24 : Int32).toInt = zRat (zDF fi) at_.toInt x_35.toInt.toNat) from by (have e4 : x_17.toInt.toNat = 4 * i_2.toInt.toNat := (by omega); have z := hsr_18_6; rw [e4] at z; rw [show x_35.toInt.toNat = i_2.toInt.toNat + 1 from by omega]; obtain ⟨z1, z2, z3, z4, z5⟩ := z; obtain ⟨y1, y2, y3, y4, y5⟩ := hvi_2_8; refine ⟨?_, ?_, ?_, ?_, ?_⟩; (rw [z1, y1]; rfl); (rw [z2, y2]; rfl); (rw [z3, y3]; rfl); (rw [z4, y4]; rfl); (rw [z5, y5]; rfl))) (dw_lo hloi_2 qx_35) (dw_hn hni_2 qx_35)
set_option maxHeartbeats 4000000 in
set_option maxRecDepth 100000 in
theorem c_F_X_jacket (l : Launch) (D : va_G) (cI cJ cZ cP cS : ClassId) (po : zPool) (x0 xs j0 k0 w0 rd mv xr : Nat) (im lf : Int32) (fr : Nat → Int32) (fh : Nat → Option Nat) (s_ : Int32) (h0 e0 : Nat) (he si : Int32) (fe : Nat → Int64) (ri rl : Nat) (rz rc rp rf rt ru : Int32) (fle : Nat → Int32) (fi : Nat → Int32) (j0 jp jc z0 zl zs : Nat) (cn de tr se hu sd : Int32) (sz at_ gp : Int32) (fl fs : Nat → Int32) (fp : Nat → Option Nat) (kf af tf : Nat → Int32) (fc : Nat → Int32) (hy0 : 0 ≤ im.toInt) (hy1 : im.toInt ≤ 1) (hy2 : (-1) ≤ lf.toInt) (hy3 : lf.toInt ≤ 160) (hy4 : (-1) ≤ he.toInt) (hy5 : he.toInt ≤ 103) (hy6 : 0 ≤ si.toInt) (hy7 : si.toInt ≤ 160) (hfs : 0 ≤ s_.toInt → s_.toInt ≤ 7 → fh s_.toNatClampNeg = some h0) (hy9 : 0 ≤ rz.toInt) (hy10 : rz.toInt ≤ 160) (hy11 : 0 ≤ rc.toInt) (hy12 : rc.toInt ≤ 40) (hy13 : 0 ≤ rp.toInt) (hy14 : rp.toInt ≤ 160) (hy15 : rp.toInt ≤ rz.toInt) (hy16 : (-1) ≤ rf.toInt) (hy17 : rf.toInt ≤ 160) (hy18 : 0 ≤ rt.toInt) (hy19 : rt.toInt ≤ 40) (hy20 : 0 ≤ ru.toInt) (hy21 : ru.toInt ≤ 8) (hy22 : 0 ≤ rc.toInt) (hy23 : rc.toInt ≤ 33) (hy24 : 0 ≤ cn.toInt) (hy25 : cn.toInt ≤ 8) (hy26 : 0 ≤ de.toInt) (hy27 : de.toInt ≤ 24) (hy28 : 0 ≤ hu.toInt) (hy29 : hu.toInt ≤ 9) (hy30 : 4 ≤ sz.toInt) (hy31 : sz.toInt ≤ 40) (hy32 : 0 ≤ at_.toInt) (hy33 : at_.toInt ≤ 40) (hy34 : 1 ≤ gp.toInt) (hy35 : gp.toInt ≤ 9) (hp_fl : zRg fl (0) 1) (hp_fs : zRg fs (0) 9) (hp_fc : zRg fc (0) 99) (hpz : Nat) : Met l yX7_jacket wsX7_jacket ({ frames := 8, cells := 40, slots := 120, locals := 178 }) (va_Pc [.ref x0, .int s_] (zW D (zKT cI cJ cZ cP cS) po [(x0, .inr (7, [.ref xs, .ref j0, .ref k0, .ref w0, .ref rd, .ref mv, .ref xr, .int im, .int lf])), (xr, .inl (cI, 8, .inl fr)), (xs, .inl (cS, 8, .inr (.inr (.inr (.inr fh))))), (h0, .inr (4, [.ref e0, .int he, .int si])), (e0, .inl (cJ, 160, .inr (.inl fe))), (rd, .inr (3, [.ref ri, .ref rl, .int rz, .int rc, .int rp, .int rf, .int rt, .int ru])), (rl, .inl (cI, 160, .inl fle)), (ri, .inl (cI, 132, .inl fi)), (j0, .inr (0, [.ref z0, .ref jp, .ref jc, .int cn, .int de, .int tr, .int se, .int hu, .int sd])), (z0, .inr (6, [.ref zl, .ref zs, .int sz, .int at_, .int gp])), (zl, .inl (cZ, 40, .inl fl)), (zs, .inl (cI, 40, .inl fs)), (jp, .inl (cP, 8, .inr (.inr (.inr (.inr fp))))), (jc, .inl (cI, 3, .inl fc))] hpz)) (va_Qi (fun (r : Int32) (u : (Int32) × (Int32) × (Int32) × (Int32) × (Int32) × (Int32) × (Int32) × (Nat → Int32) × (Nat → Int32) × (Int32) × (Int32) × (Int32) × (Int32) × (Int32) × (Int32) × (Nat → Int32) × (Nat → Int32) × (Nat → Int32) × (Int32) × (Nat → Option Nat) × (Nat → Int32) × (Nat → Int32) × (Nat → Int32) × (Nat → Int32) × (List (Nat × Int32 × Int32 × Int32))) => ((-1) ≤ u.1.toInt ∧ u.1.toInt ≤ 160) ∧ (0 ≤ u.2.1.toInt ∧ u.2.1.toInt ≤ 160) ∧ (0 ≤ u.2.2.1.toInt ∧ u.2.2.1.toInt ≤ 33) ∧ (0 ≤ u.2.2.2.1.toInt ∧ u.2.2.2.1.toInt ≤ 160) ∧ ((-1) ≤ u.2.2.2.2.1.toInt ∧ u.2.2.2.2.1.toInt ≤ 160) ∧ (0 ≤ u.2.2.2.2.2.1.toInt ∧ u.2.2.2.2.2.1.toInt ≤ 40) ∧ (0 ≤ u.2.2.2.2.2.2.1.toInt ∧ u.2.2.2.2.2.2.1.toInt ≤ 8) ∧ (0 ≤ u.2.2.2.2.2.2.2.2.2.1.toInt ∧ u.2.2.2.2.2.2.2.2.2.1.toInt ≤ 24) ∧ (0 ≤ u.2.2.2.2.2.2.2.2.2.2.2.1.toInt ∧ u.2.2.2.2.2.2.2.2.2.2.2.1.toInt ≤ 9) ∧ (4 ≤ u.2.2.2.2.2.2.2.2.2.2.2.2.1.toInt ∧ u.2.2.2.2.2.2.2.2.2.2.2.2.1.toInt ≤ 40) ∧ (0 ≤ u.2.2.2.2.2.2.2.2.2.2.2.2.2.1.toInt ∧ u.2.2.2.2.2.2.2.2.2.2.2.2.2.1.toInt ≤ 40) ∧ (1 ≤ u.2.2.2.2.2.2.2.2.2.2.2.2.2.2.1.toInt ∧ u.2.2.2.2.2.2.2.2.2.2.2.2.2.2.1.toInt ≤ 9) ∧ zRg u.2.2.2.2.2.2.2.2.2.2.2.2.2.2.2.1 (0) 1 ∧ zRg u.2.2.2.2.2.2.2.2.2.2.2.2.2.2.2.2.1 (0) 9 ∧ zRg u.2.2.2.2.2.2.2.2.2.2.2.2.2.2.2.2.2.1 (0) 99 ∧ (0 ≤ u.2.2.2.2.2.2.2.2.2.2.2.2.2.2.2.2.2.2.1.toInt ∧ u.2.2.2.2.2.2.2.2.2.2.2.2.2.2.2.2.2.2.1.toInt ≤ 8) ∧ (∀ z ∈ u.2.2.2.2.2.2.2.2.2.2.2.2.2.2.2.2.2.2.2.2.2.2.2.2, zPr z.2.1 z.2.2.1 z.2.2.2) ∧ (zExt u.2.2.2.2.2.2.2.2.2.2.2.2.2.2.2.2.2.2.2.2.2.2.2.2 fp cn kf af tf u.2.2.2.2.2.2.2.2.2.2.2.2.2.2.2.2.2.2.2.1 u.2.2.2.2.2.2.2.2.2.2.2.2.2.2.2.2.2.2.1 u.2.2.2.2.2.2.2.2.2.2.2.2.2.2.2.2.2.2.2.2.2.1 u.2.2.2.2.2.2.2.2.2.2.2.2.2.2.2.2.2.2.2.2.2.2.1 u.2.2.2.2.2.2.2.2.2.2.2.2.2.2.2.2.2.2.2.2.2.2.2.1) ∧ (u.2.2.2.1.toInt ≤ u.2.1.toInt) ∧ (zJac (fun j => (fe j).toInt32) si.toInt s_.toInt he.toInt lf.toInt cn.toInt sz.toInt r.toInt u.1.toInt u.2.2.2.2.2.2.2.2.2.2.2.2.2.2.2.2.2.2.1.toInt u.2.2.2.2.2.2.2.2.2.2.2.2.1.toInt) ∧ ((1 ≤ r.toInt → ∀ j : Nat, j < 40 → u.2.2.2.2.2.2.2.2.2.2.2.2.2.2.2.1 j = zRl (zDI (fun j : Nat => (fe j).toInt32) si.toInt sz.toInt cn.toInt) fl r.toInt.toNat j)) ∧ ((1 ≤ r.toInt → ∀ j : Nat, j < 40 → u.2.2.2.2.2.2.2.2.2.2.2.2.2.2.2.2.1 j = zRs (zDI (fun j : Nat => (fe j).toInt32) si.toInt sz.toInt cn.toInt) fs r.toInt.toNat j)) ∧ ((1 ≤ r.toInt → ∀ j : Nat, j < 8 → u.2.2.2.2.2.2.2.2.2.2.2.2.2.2.2.2.2.2.2.2.2.1 j = zRk (zDI (fun j : Nat => (fe j).toInt32) si.toInt sz.toInt cn.toInt) cn.toInt kf r.toInt.toNat j ∧ u.2.2.2.2.2.2.2.2.2.2.2.2.2.2.2.2.2.2.2.2.2.2.1 j = zRa (zDI (fun j : Nat => (fe j).toInt32) si.toInt sz.toInt cn.toInt) cn.toInt af r.toInt.toNat j ∧ u.2.2.2.2.2.2.2.2.2.2.2.2.2.2.2.2.2.2.2.2.2.2.2.1 j = zRt (zDI (fun j : Nat => (fe j).toInt32) si.toInt sz.toInt cn.toInt) cn.toInt tf r.toInt.toNat j)) ∧ ((1 ≤ r.toInt → ∀ j : Nat, j < 3 → u.2.2.2.2.2.2.2.2.2.2.2.2.2.2.2.2.2.1 j = zRc (zDI (fun j : Nat => (fe j).toInt32) si.toInt sz.toInt cn.toInt) fc r.toInt.toNat j)) ∧ ((1 ≤ r.toInt → u.2.2.2.2.2.2.2.2.2.1.toInt = zRn 4 (zDI (fun j : Nat => (fe j).toInt32) si.toInt sz.toInt cn.toInt) de.toInt r.toInt.toNat ∧ u.2.2.2.2.2.2.2.2.2.2.1.toInt = zRn 5 (zDI (fun j : Nat => (fe j).toInt32) si.toInt sz.toInt cn.toInt) se.toInt r.toInt.toNat ∧ u.2.2.2.2.2.2.2.2.2.2.2.1.toInt = zRn 6 (zDI (fun j : Nat => (fe j).toInt32) si.toInt sz.toInt cn.toInt) hu.toInt r.toInt.toNat ∧ u.2.2.2.2.2.2.2.2.2.2.2.2.2.2.1.toInt = zRn 7 (zDI (fun j : Nat => (fe j).toInt32) si.toInt sz.toInt cn.toInt) gp.toInt r.toInt.toNat ∧ u.2.2.2.2.2.2.2.2.2.2.2.2.2.1.toInt = zRat (zDI (fun j : Nat => (fe j).toInt32) si.toInt sz.toInt cn.toInt) at_.toInt r.toInt.toNat)) ∧ ((r.toInt < 1 → u.2.2.2.2.2.2.2.2.2.2.2.2.2.2.2.1 = fl ∧ u.2.2.2.2.2.2.2.2.2.2.2.2.2.2.2.2.1 = fs ∧ u.2.2.2.2.2.2.2.2.2.2.2.2.2.2.2.2.2.2.2.2.2.1 = kf ∧ u.2.2.2.2.2.2.2.2.2.2.2.2.2.2.2.2.2.2.2.2.2.2.1 = af ∧ u.2.2.2.2.2.2.2.2.2.2.2.2.2.2.2.2.2.2.2.2.2.2.2.1 = tf ∧ u.2.2.2.2.2.2.2.2.2.2.2.2.2.2.2.2.2.1 = fc ∧ u.2.2.2.2.2.2.2.2.2.1 = de ∧ u.2.2.2.2.2.2.2.2.2.2.1 = se ∧ u.2.2.2.2.2.2.2.2.2.2.2.1 = hu ∧ u.2.2.2.2.2.2.2.2.2.2.2.2.2.2.1 = gp ∧ u.2.2.2.2.2.2.2.2.2.2.2.2.2.1 = at_)) ∧ (True)) (zB D [(x0, .inr (7, [.ref xs, .ref j0, .ref k0, .ref w0, .ref rd, .ref mv, .ref xr, .int im, .int lf])), (xr, .inl (cI, 8, .inl fr)), (xs, .inl (cS, 8, .inr (.inr (.inr (.inr fh))))), (h0, .inr (4, [.ref e0, .int he, .int si])), (e0, .inl (cJ, 160, .inr (.inl fe))), (rd, .inr (3, [.ref ri, .ref rl, .int rz, .int rc, .int rp, .int rf, .int rt, .int ru])), (rl, .inl (cI, 160, .inl fle)), (ri, .inl (cI, 132, .inl fi)), (j0, .inr (0, [.ref z0, .ref jp, .ref jc, .int cn, .int de, .int tr, .int se, .int hu, .int sd])), (z0, .inr (6, [.ref zl, .ref zs, .int sz, .int at_, .int gp])), (zl, .inl (cZ, 40, .inl fl)), (zs, .inl (cI, 40, .inl fs)), (jp, .inl (cP, 8, .inr (.inr (.inr (.inr fp))))), (jc, .inl (cI, 3, .inl fc))] hpz (fun (u : (Int32) × (Int32) × (Int32) × (Int32) × (Int32) × (Int32) × (Int32) × (Nat → Int32) × (Nat → Int32) × (Int32) × (Int32) × (Int32) × (Int32) × (Int32) × (Int32) × (Nat → Int32) × (Nat → Int32) × (Nat → Int32) × (Int32) × (Nat → Option Nat) × (Nat → Int32) × (Nat → Int32) × (Nat → Int32) × (Nat → Int32) × (List (Nat × Int32 × Int32 × Int32))) => ([(x0, .inr (7, [.ref xs, .ref j0, .ref k0, .ref w0, .ref rd, .ref mv, .ref xr, .int im, .int u.1])), (xr, .inl (cI, 8, .inl u.2.2.2.2.2.2.2.2.2.2.2.2.2.2.2.2.2.2.2.2.1)), (xs, .inl (cS, 8, .inr (.inr (.inr (.inr fh))))), (h0, .inr (4, [.ref e0, .int he, .int si])), (e0, .inl (cJ, 160, .inr (.inl fe))), (rd, .inr (3, [.ref ri, .ref rl, .int u.2.1, .int u.2.2.1, .int u.2.2.2.1, .int u.2.2.2.2.1, .int u.2.2.2.2.2.1, .int u.2.2.2.2.2.2.1])), (rl, .inl (cI, 160, .inl u.2.2.2.2.2.2.2.2.1)), (ri, .inl (cI, 132, .inl u.2.2.2.2.2.2.2.1)), (j0, .inr (0, [.ref z0, .ref jp, .ref jc, .int u.2.2.2.2.2.2.2.2.2.2.2.2.2.2.2.2.2.2.1, .int u.2.2.2.2.2.2.2.2.2.1, .int tr, .int u.2.2.2.2.2.2.2.2.2.2.1, .int u.2.2.2.2.2.2.2.2.2.2.2.1, .int sd])), (z0, .inr (6, [.ref zl, .ref zs, .int u.2.2.2.2.2.2.2.2.2.2.2.2.1, .int u.2.2.2.2.2.2.2.2.2.2.2.2.2.1, .int u.2.2.2.2.2.2.2.2.2.2.2.2.2.2.1])), (zl, .inl (cZ, 40, .inl u.2.2.2.2.2.2.2.2.2.2.2.2.2.2.2.1)), (zs, .inl (cI, 40, .inl u.2.2.2.2.2.2.2.2.2.2.2.2.2.2.2.2.1)), (jp, .inl (cP, 8, .inr (.inr (.inr (.inr u.2.2.2.2.2.2.2.2.2.2.2.2.2.2.2.2.2.2.2.1))))), (jc, .inl (cI, 3, .inl u.2.2.2.2.2.2.2.2.2.2.2.2.2.2.2.2.2.1))] ++ u.2.2.2.2.2.2.2.2.2.2.2.2.2.2.2.2.2.2.2.2.2.2.2.2.map zPo))) (va_A [(x0, .inr (7, [.ref xs, .ref j0, .ref k0, .ref w0, .ref rd, .ref mv, .ref xr, .int im, .int lf])), (xr, .inl (cI, 8, .inl fr)), (xs, .inl (cS, 8, .inr (.inr (.inr (.inr fh))))), (h0, .inr (4, [.ref e0, .int he, .int si])), (e0, .inl (cJ, 160, .inr (.inl fe))), (rd, .inr (3, [.ref ri, .ref rl, .int rz, .int rc, .int rp, .int rf, .int rt, .int ru])), (rl, .inl (cI, 160, .inl fle)), (ri, .inl (cI, 132, .inl fi)), (j0, .inr (0, [.ref z0, .ref jp, .ref jc, .int cn, .int de, .int tr, .int se, .int hu, .int sd])), (z0, .inr (6, [.ref zl, .ref zs, .int sz, .int at_, .int gp])), (zl, .inl (cZ, 40, .inl fl)), (zs, .inl (cI, 40, .inl fs)), (jp, .inl (cP, 8, .inr (.inr (.inr (.inr fp))))), (jc, .inl (cI, 3, .inl fc))] hpz)) 40 120 (va_A [(x0, .inr (7, [.ref xs, .ref j0, .ref k0, .ref w0, .ref rd, .ref mv, .ref xr, .int im, .int lf])), (xr, .inl (cI, 8, .inl fr)), (xs, .inl (cS, 8, .inr (.inr (.inr (.inr fh))))), (h0, .inr (4, [.ref e0, .int he, .int si])), (e0, .inl (cJ, 160, .inr (.inl fe))), (rd, .inr (3, [.ref ri, .ref rl, .int rz, .int rc, .int rp, .int rf, .int rt, .int ru])), (rl, .inl (cI, 160, .inl fle)), (ri, .inl (cI, 132, .inl fi)), (j0, .inr (0, [.ref z0, .ref jp, .ref jc, .int cn, .int de, .int tr, .int se, .int hu, .int sd])), (z0, .inr (6, [.ref zl, .ref zs, .int sz, .int at_, .int gp])), (zl, .inl (cZ, 40, .inl fl)), (zs, .inl (cI, 40, .inl fs)), (jp, .inl (cP, 8, .inr (.inr (.inr (.inr fp))))), (jc, .inl (cI, 3, .inl fc))] hpz) := by
  refine Met.ofW (cc := cX7_jacket) (maxL := 4) (ret := (some .int)) (by decide) rfl ?_
  intro p e s m args below meth c s₁ B hml hv
  obtain ⟨rfl, hsz, hP, hK, hD0, hN, hZ⟩ := hv
  have hx := B.exec
  have hb := B.bytes
  have hr := B.returns
  have hts := atoms_spec (ws := wsX7_jacket) B.pre
  have hown : s.vm.findClass RX7 = some m.cls := findClass_of_methodNamed B.named
  have hlocks := B.notSynchronized
  subst hsz
  have hD := hD0.self (sz := s.heap.size)
  have hA := zA_of hD
  have hl := lv_entry ([.ref x0, .int s_]) (n := 4) (Nat.le_of_ble_eq_true rfl)
  rw [lg_entry_eq]
  generalize (lg_sl ([.ref x0, .int s_]) ++ List.replicate (4 - (lg_sl ([.ref x0, .int s_])).length) Slot.unset).toArray = ls at hl ⊢
  replace hl : lv_has ls 4 [(0, .ref x0), (1, .int s_)] := hl
  refine zw_begin hP hD (fun H locs hP1 hS => ?_)
  clear hP
  have hP := hP1
  clear hP1
  refine lv_aload_n hx hb dX7_jacket_0 rfl (lv_at hl 0 rfl) ?_
  refine lv_iload_n hx hb dX7_jacket_1 rfl (lv_at hl 1 rfl) ?_
  refine zc_Vq (As := [.int s_]) (rest := []) ⟨hx, hb, hml, hown, hts⟩ (c_X_shelfAt l D cI cJ cZ cP cS po x0 xs j0 k0 w0 rd mv xr (im) (lf) ((fun _ => 0)) fh (s_) hy0 hy1 hy2 hy3) (cwV 1 hts gX7_jacket_X7_shelfAt rfl rfl rfl ⟨rfl, dh_X7_shelfAt⟩ ⟨Nat.le_of_ble_eq_true rfl, Nat.le_of_ble_eq_true rfl⟩) hK hN (hZ.kept hS) hP (hP.sub [0, 2] rfl) (va_recv (q := (RX7, TX7, 9)) hK hP (ci := 7) (q0 := 0) rfl rfl) rfl hl.1 rfl (Nat.le_of_ble_eq_true rfl) dX7_jacket_2 ⟨Nat.le_of_ble_eq_true rfl, Nat.le_of_ble_eq_true rfl⟩ (fun r_1 hr_1 => ?_)
  rcases hr_1 with ⟨rfl, g_2⟩ | ⟨rfl, g_3, g_4⟩ | ⟨rfl, g_5, g_6⟩
  · refine lv_astore_nN (lv' := [(2, .null), (0, .ref x0), (1, .int s_)]) hx hb dX7_jacket_5 rfl hl (by decide) rfl (fun ls hl => ?_)
    refine lv_aload_nN hx hb dX7_jacket_6 rfl (lv_at hl 0 rfl) ?_
    refine lv_ifnonnullN hx hb dX7_jacket_7 ?_
    refine lv_aload_n hx hb dX7_jacket_10 rfl (lv_at hl 1 rfl) ?_
    refine lv_iconst (v := 1) hx hb dX7_jacket_11 (by decide) ?_
    skip
    refine zw_V (As := [.int 1]) (rest := []) (wr := [(xs, .inl (cS, 8, .inr (.inr (.inr (.inr fh))))), (h0, .inr (4, [.ref e0, .int he, .int si])), (e0, .inl (cJ, 160, .inr (.inl fe))), (rd, .inr (3, [.ref ri, .ref rl, .int rz, .int rc, .int rp, .int rf, .int rt, .int ru])), (rl, .inl (cI, 160, .inl fle)), (ri, .inl (cI, 132, .inl fi)), (j0, .inr (0, [.ref z0, .ref jp, .ref jc, .int cn, .int de, .int tr, .int se, .int hu, .int sd])), (z0, .inr (6, [.ref zl, .ref zs, .int sz, .int at_, .int gp])), (zl, .inl (cZ, 40, .inl fl)), (zs, .inl (cI, 40, .inl fs)), (jp, .inl (cP, 8, .inr (.inr (.inr (.inr fp))))), (jc, .inl (cI, 3, .inl fc))]) ⟨hx, hb, hml, hown, hts⟩ (c_X_refuse_1 l D cI cJ cZ cP cS po x0 xs j0 k0 w0 rd mv xr (im) (lf) fr hy0 hy1 hy2 hy3 H.size) (cwV 1 hts gX7_jacket_X7_refuse rfl rfl rfl ⟨rfl, dh_X7_refuse⟩ ⟨Nat.le_of_ble_eq_true rfl, Nat.le_of_ble_eq_true rfl⟩) hK hN (hZ.kept hS) hP hD hS hA [0, 1] [2, 3, 4, 5, 6, 7, 8, 9, 10, 11, 12, 13] rfl rfl (by decide) (by decide) (by decide) (va_recv (q := (RX7, TX7, 9)) hK hP (ci := 7) (q0 := 0) rfl rfl) rfl hl.1 rfl (Nat.le_of_ble_eq_true rfl) dX7_jacket_12 ⟨Nat.le_of_ble_eq_true rfl, Nat.le_of_ble_eq_true rfl⟩ (fun r_7 u_8 H locs hr_7 hP hD hS => ?_)
    obtain ⟨q_9, rfl⟩ : ∃ z, z = u_8 := ⟨_, rfl⟩
    have h9R := zRe (ws' := [(xs, .inl (cS, 8, .inr (.inr (.inr (.inr fh))))), (h0, .inr (4, [.ref e0, .int he, .int si])), (e0, .inl (cJ, 160, .inr (.inl fe))), (rd, .inr (3, [.ref ri, .ref rl, .int rz, .int rc, .int rp, .int rf, .int rt, .int ru])), (rl, .inl (cI, 160, .inl fle)), (ri, .inl (cI, 132, .inl fi)), (j0, .inr (0, [.ref z0, .ref jp, .ref jc, .int cn, .int de, .int tr, .int se, .int hu, .int sd])), (z0, .inr (6, [.ref zl, .ref zs, .int sz, .int at_, .int gp])), (zl, .inl (cZ, 40, .inl fl)), (zs, .inl (cI, 40, .inl fs)), (jp, .inl (cP, 8, .inr (.inr (.inr (.inr fp))))), (jc, .inl (cI, 3, .inl fc)), (x0, .inr (7, [.ref xs, .ref j0, .ref k0, .ref w0, .ref rd, .ref mv, .ref xr, .int im, .int lf])), (xr, .inl (cI, 8, .inl q_9))]) hP hD rfl
    clear hP hD
    obtain ⟨hP, hD⟩ := h9R
    obtain rfl := hr_7
    refine W.widen (k := 40) (n := 120) (Nat.le_of_ble_eq_true rfl) (Nat.le_of_ble_eq_true rfl) ?_
    exact W.iret (v := (-1)) hx hb hr (fun t ht hW => ⟨⟨(-1), (lf, rz, rc, rp, rf, rt, ru, fi, fle, de, se, hu, sz, at_, gp, fl, fs, fc, cn, fp, q_9, kf, af, tf, []), rfl, ⟨(show (-1) ≤ lf.toInt ∧ lf.toInt ≤ 160 from ⟨hy2, hy3⟩), (show 0 ≤ rz.toInt ∧ rz.toInt ≤ 160 from ⟨hy9, hy10⟩), (show 0 ≤ rc.toInt ∧ rc.toInt ≤ 33 from ⟨hy11, hy23⟩), (show 0 ≤ rp.toInt ∧ rp.toInt ≤ 160 from ⟨hy13, hy14⟩), (show (-1) ≤ rf.toInt ∧ rf.toInt ≤ 160 from ⟨hy16, hy17⟩), (show 0 ≤ rt.toInt ∧ rt.toInt ≤ 40 from ⟨hy18, hy19⟩), (show 0 ≤ ru.toInt ∧ ru.toInt ≤ 8 from ⟨hy20, hy21⟩), (show 0 ≤ de.toInt ∧ de.toInt ≤ 24 from ⟨hy26, hy27⟩), (show 0 ≤ hu.toInt ∧ hu.toInt ≤ 9 from ⟨hy28, hy29⟩), (show 4 ≤ sz.toInt ∧ sz.toInt ≤ 40 from ⟨hy30, hy31⟩), (show 0 ≤ at_.toInt ∧ at_.toInt ≤ 40 from ⟨hy32, hy33⟩), (show 1 ≤ gp.toInt ∧ gp.toInt ≤ 9 from ⟨hy34, hy35⟩), hp_fl, hp_fs, hp_fc, (show 0 ≤ cn.toInt ∧ cn.toInt ≤ 8 from ⟨hy24, hy25⟩), (by intro z hz; simp at hz), (show zExt [] fp cn kf af tf fp cn kf af tf from by first | exact zExt.refl | assumption), (show rp.toInt ≤ rz.toInt from by omega), (show zJac (fun j => (fe j).toInt32) si.toInt s_.toInt he.toInt lf.toInt cn.toInt sz.toInt ((-1) : Int32).toInt lf.toInt cn.toInt sz.toInt from by (unfold zJac; have k9 : ((-1) : Int32).toInt = -1 := (by decide); first | (left; omega) | (right; left; omega) | (right; right; left; omega))), (show (1 ≤ ((-1) : Int32).toInt → ∀ j : Nat, j < 40 → fl j = zRl (zDI (fun j : Nat => (fe j).toInt32) si.toInt sz.toInt cn.toInt) fl ((-1) : Int32).toInt.toNat j) from by (have k9 : ((-1) : Int32).toInt = -1 := (by decide); intro h; exfalso; omega)), (show (1 ≤ ((-1) : Int32).toInt → ∀ j : Nat, j < 40 → fs j = zRs (zDI (fun j : Nat => (fe j).toInt32) si.toInt sz.toInt cn.toInt) fs ((-1) : Int32).toInt.toNat j) from by (have k9 : ((-1) : Int32).toInt = -1 := (by decide); intro h; exfalso; omega)), (show (1 ≤ ((-1) : Int32).toInt → ∀ j : Nat, j < 8 → kf j = zRk (zDI (fun j : Nat => (fe j).toInt32) si.toInt sz.toInt cn.toInt) cn.toInt kf ((-1) : Int32).toInt.toNat j ∧ af j = zRa (zDI (fun j : Nat => (fe j).toInt32) si.toInt sz.toInt cn.toInt) cn.toInt af ((-1) : Int32).toInt.toNat j ∧ tf j = zRt (zDI (fun j : Nat => (fe j).toInt32) si.toInt sz.toInt cn.toInt) cn.toInt tf ((-1) : Int32).toInt.toNat j) from by (have k9 : ((-1) : Int32).toInt = -1 := (by decide); intro h; exfalso; omega)), (show (1 ≤ ((-1) : Int32).toInt → ∀ j : Nat, j < 3 → fc j = zRc (zDI (fun j : Nat => (fe j).toInt32) si.toInt sz.toInt cn.toInt) fc ((-1) : Int32).toInt.toNat j) from by (have k9 : ((-1) : Int32).toInt = -1 := (by decide); intro h; exfalso; omega)), (show (1 ≤ ((-1) : Int32).toInt → de.toInt = zRn 4 (zDI (fun j : Nat => (fe j).toInt32) si.toInt sz.toInt cn.toInt) de.toInt ((-1) : Int32).toInt.toNat ∧ se.toInt = zRn 5 (zDI (fun j : Nat => (fe j).toInt32) si.toInt sz.toInt cn.toInt) se.toInt ((-1) : Int32).toInt.toNat ∧ hu.toInt = zRn 6 (zDI (fun j : Nat => (fe j).toInt32) si.toInt sz.toInt cn.toInt) hu.toInt ((-1) : Int32).toInt.toNat ∧ gp.toInt = zRn 7 (zDI (fun j : Nat => (fe j).toInt32) si.toInt sz.toInt cn.toInt) gp.toInt ((-1) : Int32).toInt.toNat ∧ at_.toInt = zRat (zDI (fun j : Nat => (fe j).toInt32) si.toInt sz.toInt cn.toInt) at_.toInt ((-1) : Int32).toInt.toNat) from by (have k9 : ((-1) : Int32).toInt = -1 := (by decide); intro h; exfalso; omega)), (show (((-1) : Int32).toInt < 1 → fl = fl ∧ fs = fs ∧ kf = kf ∧ af = af ∧ tf = tf ∧ fc = fc ∧ de = de ∧ se = se ∧ hu = hu ∧ gp = gp ∧ at_ = at_) from by (intro _; exact ⟨rfl, rfl, rfl, rfl, rfl, rfl, rfl, rfl, rfl, rfl, rfl⟩)), trivial⟩, zRet ht hP hD [12, 13, 0, 1, 2, 3, 4, 5, 6, 7, 8, 9, 10, 11] (by decide) rfl⟩, hS.F ht⟩) hS.2.2 dX7_jacket_15
  · refine lv_astore_nN (lv' := [(2, .null), (0, .ref x0), (1, .int s_)]) hx hb dX7_jacket_5 rfl hl (by decide) rfl (fun ls hl => ?_)
    refine lv_aload_nN hx hb dX7_jacket_6 rfl (lv_at hl 0 rfl) ?_
    refine lv_ifnonnullN hx hb dX7_jacket_7 ?_
    refine lv_aload_n hx hb dX7_jacket_10 rfl (lv_at hl 1 rfl) ?_
    refine lv_iconst (v := 1) hx hb dX7_jacket_11 (by decide) ?_
    skip
    refine zw_V (As := [.int 1]) (rest := []) (wr := [(xs, .inl (cS, 8, .inr (.inr (.inr (.inr fh))))), (h0, .inr (4, [.ref e0, .int he, .int si])), (e0, .inl (cJ, 160, .inr (.inl fe))), (rd, .inr (3, [.ref ri, .ref rl, .int rz, .int rc, .int rp, .int rf, .int rt, .int ru])), (rl, .inl (cI, 160, .inl fle)), (ri, .inl (cI, 132, .inl fi)), (j0, .inr (0, [.ref z0, .ref jp, .ref jc, .int cn, .int de, .int tr, .int se, .int hu, .int sd])), (z0, .inr (6, [.ref zl, .ref zs, .int sz, .int at_, .int gp])), (zl, .inl (cZ, 40, .inl fl)), (zs, .inl (cI, 40, .inl fs)), (jp, .inl (cP, 8, .inr (.inr (.inr (.inr fp))))), (jc, .inl (cI, 3, .inl fc))]) ⟨hx, hb, hml, hown, hts⟩ (c_X_refuse_1 l D cI cJ cZ cP cS po x0 xs j0 k0 w0 rd mv xr (im) (lf) fr hy0 hy1 hy2 hy3 H.size) (cwV 1 hts gX7_jacket_X7_refuse rfl rfl rfl ⟨rfl, dh_X7_refuse⟩ ⟨Nat.le_of_ble_eq_true rfl, Nat.le_of_ble_eq_true rfl⟩) hK hN (hZ.kept hS) hP hD hS hA [0, 1] [2, 3, 4, 5, 6, 7, 8, 9, 10, 11, 12, 13] rfl rfl (by decide) (by decide) (by decide) (va_recv (q := (RX7, TX7, 9)) hK hP (ci := 7) (q0 := 0) rfl rfl) rfl hl.1 rfl (Nat.le_of_ble_eq_true rfl) dX7_jacket_12 ⟨Nat.le_of_ble_eq_true rfl, Nat.le_of_ble_eq_true rfl⟩ (fun r_10 u_11 H locs hr_10 hP hD hS => ?_)
    obtain ⟨q_12, rfl⟩ : ∃ z, z = u_11 := ⟨_, rfl⟩
    have h9R := zRe (ws' := [(xs, .inl (cS, 8, .inr (.inr (.inr (.inr fh))))), (h0, .inr (4, [.ref e0, .int he, .int si])), (e0, .inl (cJ, 160, .inr (.inl fe))), (rd, .inr (3, [.ref ri, .ref rl, .int rz, .int rc, .int rp, .int rf, .int rt, .int ru])), (rl, .inl (cI, 160, .inl fle)), (ri, .inl (cI, 132, .inl fi)), (j0, .inr (0, [.ref z0, .ref jp, .ref jc, .int cn, .int de, .int tr, .int se, .int hu, .int sd])), (z0, .inr (6, [.ref zl, .ref zs, .int sz, .int at_, .int gp])), (zl, .inl (cZ, 40, .inl fl)), (zs, .inl (cI, 40, .inl fs)), (jp, .inl (cP, 8, .inr (.inr (.inr (.inr fp))))), (jc, .inl (cI, 3, .inl fc)), (x0, .inr (7, [.ref xs, .ref j0, .ref k0, .ref w0, .ref rd, .ref mv, .ref xr, .int im, .int lf])), (xr, .inl (cI, 8, .inl q_12))]) hP hD rfl
    clear hP hD
    obtain ⟨hP, hD⟩ := h9R
    obtain rfl := hr_10
    refine W.widen (k := 40) (n := 120) (Nat.le_of_ble_eq_true rfl) (Nat.le_of_ble_eq_true rfl) ?_
    exact W.iret (v := (-1)) hx hb hr (fun t ht hW => ⟨⟨(-1), (lf, rz, rc, rp, rf, rt, ru, fi, fle, de, se, hu, sz, at_, gp, fl, fs, fc, cn, fp, q_12, kf, af, tf, []), rfl, ⟨(show (-1) ≤ lf.toInt ∧ lf.toInt ≤ 160 from ⟨hy2, hy3⟩), (show 0 ≤ rz.toInt ∧ rz.toInt ≤ 160 from ⟨hy9, hy10⟩), (show 0 ≤ rc.toInt ∧ rc.toInt ≤ 33 from ⟨hy11, hy23⟩), (show 0 ≤ rp.toInt ∧ rp.toInt ≤ 160 from ⟨hy13, hy14⟩), (show (-1) ≤ rf.toInt ∧ rf.toInt ≤ 160 from ⟨hy16, hy17⟩), (show 0 ≤ rt.toInt ∧ rt.toInt ≤ 40 from ⟨hy18, hy19⟩), (show 0 ≤ ru.toInt ∧ ru.toInt ≤ 8 from ⟨hy20, hy21⟩), (show 0 ≤ de.toInt ∧ de.toInt ≤ 24 from ⟨hy26, hy27⟩), (show 0 ≤ hu.toInt ∧ hu.toInt ≤ 9 from ⟨hy28, hy29⟩), (show 4 ≤ sz.toInt ∧ sz.toInt ≤ 40 from ⟨hy30, hy31⟩), (show 0 ≤ at_.toInt ∧ at_.toInt ≤ 40 from ⟨hy32, hy33⟩), (show 1 ≤ gp.toInt ∧ gp.toInt ≤ 9 from ⟨hy34, hy35⟩), hp_fl, hp_fs, hp_fc, (show 0 ≤ cn.toInt ∧ cn.toInt ≤ 8 from ⟨hy24, hy25⟩), (by intro z hz; simp at hz), (show zExt [] fp cn kf af tf fp cn kf af tf from by first | exact zExt.refl | assumption), (show rp.toInt ≤ rz.toInt from by omega), (show zJac (fun j => (fe j).toInt32) si.toInt s_.toInt he.toInt lf.toInt cn.toInt sz.toInt ((-1) : Int32).toInt lf.toInt cn.toInt sz.toInt from by (unfold zJac; have k9 : ((-1) : Int32).toInt = -1 := (by decide); first | (left; omega) | (right; left; omega) | (right; right; left; omega))), (show (1 ≤ ((-1) : Int32).toInt → ∀ j : Nat, j < 40 → fl j = zRl (zDI (fun j : Nat => (fe j).toInt32) si.toInt sz.toInt cn.toInt) fl ((-1) : Int32).toInt.toNat j) from by (have k9 : ((-1) : Int32).toInt = -1 := (by decide); intro h; exfalso; omega)), (show (1 ≤ ((-1) : Int32).toInt → ∀ j : Nat, j < 40 → fs j = zRs (zDI (fun j : Nat => (fe j).toInt32) si.toInt sz.toInt cn.toInt) fs ((-1) : Int32).toInt.toNat j) from by (have k9 : ((-1) : Int32).toInt = -1 := (by decide); intro h; exfalso; omega)), (show (1 ≤ ((-1) : Int32).toInt → ∀ j : Nat, j < 8 → kf j = zRk (zDI (fun j : Nat => (fe j).toInt32) si.toInt sz.toInt cn.toInt) cn.toInt kf ((-1) : Int32).toInt.toNat j ∧ af j = zRa (zDI (fun j : Nat => (fe j).toInt32) si.toInt sz.toInt cn.toInt) cn.toInt af ((-1) : Int32).toInt.toNat j ∧ tf j = zRt (zDI (fun j : Nat => (fe j).toInt32) si.toInt sz.toInt cn.toInt) cn.toInt tf ((-1) : Int32).toInt.toNat j) from by (have k9 : ((-1) : Int32).toInt = -1 := (by decide); intro h; exfalso; omega)), (show (1 ≤ ((-1) : Int32).toInt → ∀ j : Nat, j < 3 → fc j = zRc (zDI (fun j : Nat => (fe j).toInt32) si.toInt sz.toInt cn.toInt) fc ((-1) : Int32).toInt.toNat j) from by (have k9 : ((-1) : Int32).toInt = -1 := (by decide); intro h; exfalso; omega)), (show (1 ≤ ((-1) : Int32).toInt → de.toInt = zRn 4 (zDI (fun j : Nat => (fe j).toInt32) si.toInt sz.toInt cn.toInt) de.toInt ((-1) : Int32).toInt.toNat ∧ se.toInt = zRn 5 (zDI (fun j : Nat => (fe j).toInt32) si.toInt sz.toInt cn.toInt) se.toInt ((-1) : Int32).toInt.toNat ∧ hu.toInt = zRn 6 (zDI (fun j : Nat => (fe j).toInt32) si.toInt sz.toInt cn.toInt) hu.toInt ((-1) : Int32).toInt.toNat ∧ gp.toInt = zRn 7 (zDI (fun j : Nat => (fe j).toInt32) si.toInt sz.toInt cn.toInt) gp.toInt ((-1) : Int32).toInt.toNat ∧ at_.toInt = zRat (zDI (fun j : Nat => (fe j).toInt32) si.toInt sz.toInt cn.toInt) at_.toInt ((-1) : Int32).toInt.toNat) from by (have k9 : ((-1) : Int32).toInt = -1 := (by decide); intro h; exfalso; omega)), (show (((-1) : Int32).toInt < 1 → fl = fl ∧ fs = fs ∧ kf = kf ∧ af = af ∧ tf = tf ∧ fc = fc ∧ de = de ∧ se = se ∧ hu = hu ∧ gp = gp ∧ at_ = at_) from by (intro _; exact ⟨rfl, rfl, rfl, rfl, rfl, rfl, rfl, rfl, rfl, rfl, rfl⟩)), trivial⟩, zRet ht hP hD [12, 13, 0, 1, 2, 3, 4, 5, 6, 7, 8, 9, 10, 11] (by decide) rfl⟩, hS.F ht⟩) hS.2.2 dX7_jacket_15
  · rw [hfs (by omega) (by omega)]
    refine W.eq (g2 := F0 m 5 ls (.ref h0 :: [])) rfl ?_
    refine lv_astore_n (lv' := [(2, .ref h0), (0, .ref x0), (1, .int s_)]) hx hb dX7_jacket_5 rfl hl (by decide) rfl (fun ls hl => ?_)
    refine lv_aload_n hx hb dX7_jacket_6 rfl (lv_at hl 0 rfl) ?_
    refine lv_ifnonnull (tgt := 16) hx hb dX7_jacket_7 (by decide) ?_
    refine lv_aload_n hx hb dX7_jacket_16 rfl (lv_at hl 0 rfl) ?_
    refine zc_V (As := []) (rest := []) ⟨hx, hb, hml, hown, hts⟩ (c_Sh_noRow l D cI cJ cZ cP cS po h0 e0 (he) (si) hy4 hy5 hy6 hy7) (cwV 0 hts gX7_jacket_X4_noRow rfl rfl rfl ⟨rfl, dh_X4_noRow⟩ ⟨Nat.le_of_ble_eq_true rfl, Nat.le_of_ble_eq_true rfl⟩) hK hN (hZ.kept hS) hP (hP.sub [3] rfl) (va_recv (q := (RX4, TX4, 3)) hK hP (ci := 4) (q0 := 3) rfl rfl) rfl hl.1 rfl (Nat.le_of_ble_eq_true rfl) dX7_jacket_17 ⟨Nat.le_of_ble_eq_true rfl, Nat.le_of_ble_eq_true rfl⟩ (fun r_13 hr_13 => ?_)
    rcases hr_13 with ⟨rfl, g_14, g_15⟩ | ⟨rfl, g_16, g_17⟩ | ⟨rfl, g_18⟩
    · refine lv_istore_n (lv' := [(3, .int 2), (2, .ref h0), (0, .ref x0), (1, .int s_)]) hx hb dX7_jacket_20 rfl hl (by decide) rfl (fun ls hl => ?_)
      refine lv_iload_n hx hb dX7_jacket_21 rfl (lv_at hl 0 rfl) ?_
      refine lv_if_eq (tgt := 31) hx hb dX7_jacket_22 (by decide) (fun c_19 => ?_) (fun c_19 => ?_)
      · exact absurd c_19 (by decide)
      · refine lv_aload_n hx hb dX7_jacket_25 rfl (lv_at hl 2 rfl) ?_
        refine lv_iload_n hx hb dX7_jacket_26 rfl (lv_at hl 0 rfl) ?_
        skip
        refine zw_V (As := [.int 2]) (rest := []) (wr := [(xs, .inl (cS, 8, .inr (.inr (.inr (.inr fh))))), (h0, .inr (4, [.ref e0, .int he, .int si])), (e0, .inl (cJ, 160, .inr (.inl fe))), (rd, .inr (3, [.ref ri, .ref rl, .int rz, .int rc, .int rp, .int rf, .int rt, .int ru])), (rl, .inl (cI, 160, .inl fle)), (ri, .inl (cI, 132, .inl fi)), (j0, .inr (0, [.ref z0, .ref jp, .ref jc, .int cn, .int de, .int tr, .int se, .int hu, .int sd])), (z0, .inr (6, [.ref zl, .ref zs, .int sz, .int at_, .int gp])), (zl, .inl (cZ, 40, .inl fl)), (zs, .inl (cI, 40, .inl fs)), (jp, .inl (cP, 8, .inr (.inr (.inr (.inr fp))))), (jc, .inl (cI, 3, .inl fc))]) ⟨hx, hb, hml, hown, hts⟩ (c_X_refuse_2 l D cI cJ cZ cP cS po x0 xs j0 k0 w0 rd mv xr (im) (lf) fr hy0 hy1 hy2 hy3 H.size) (cwV 1 hts gX7_jacket_X7_refuse rfl rfl rfl ⟨rfl, dh_X7_refuse⟩ ⟨Nat.le_of_ble_eq_true rfl, Nat.le_of_ble_eq_true rfl⟩) hK hN (hZ.kept hS) hP hD hS hA [0, 1] [2, 3, 4, 5, 6, 7, 8, 9, 10, 11, 12, 13] rfl rfl (by decide) (by decide) (by decide) (va_recv (q := (RX7, TX7, 9)) hK hP (ci := 7) (q0 := 0) rfl rfl) rfl hl.1 rfl (Nat.le_of_ble_eq_true rfl) dX7_jacket_27 ⟨Nat.le_of_ble_eq_true rfl, Nat.le_of_ble_eq_true rfl⟩ (fun r_20 u_21 H locs hr_20 hP hD hS => ?_)
        obtain ⟨q_22, rfl⟩ : ∃ z, z = u_21 := ⟨_, rfl⟩
        have h9R := zRe (ws' := [(xs, .inl (cS, 8, .inr (.inr (.inr (.inr fh))))), (h0, .inr (4, [.ref e0, .int he, .int si])), (e0, .inl (cJ, 160, .inr (.inl fe))), (rd, .inr (3, [.ref ri, .ref rl, .int rz, .int rc, .int rp, .int rf, .int rt, .int ru])), (rl, .inl (cI, 160, .inl fle)), (ri, .inl (cI, 132, .inl fi)), (j0, .inr (0, [.ref z0, .ref jp, .ref jc, .int cn, .int de, .int tr, .int se, .int hu, .int sd])), (z0, .inr (6, [.ref zl, .ref zs, .int sz, .int at_, .int gp])), (zl, .inl (cZ, 40, .inl fl)), (zs, .inl (cI, 40, .inl fs)), (jp, .inl (cP, 8, .inr (.inr (.inr (.inr fp))))), (jc, .inl (cI, 3, .inl fc)), (x0, .inr (7, [.ref xs, .ref j0, .ref k0, .ref w0, .ref rd, .ref mv, .ref xr, .int im, .int lf])), (xr, .inl (cI, 8, .inl q_22))]) hP hD rfl
        clear hP hD
        obtain ⟨hP, hD⟩ := h9R
        obtain rfl := hr_20
        refine W.widen (k := 40) (n := 120) (Nat.le_of_ble_eq_true rfl) (Nat.le_of_ble_eq_true rfl) ?_
        exact W.iret (v := (-2)) hx hb hr (fun t ht hW => ⟨⟨(-2), (lf, rz, rc, rp, rf, rt, ru, fi, fle, de, se, hu, sz, at_, gp, fl, fs, fc, cn, fp, q_22, kf, af, tf, []), rfl, ⟨(show (-1) ≤ lf.toInt ∧ lf.toInt ≤ 160 from ⟨hy2, hy3⟩), (show 0 ≤ rz.toInt ∧ rz.toInt ≤ 160 from ⟨hy9, hy10⟩), (show 0 ≤ rc.toInt ∧ rc.toInt ≤ 33 from ⟨hy11, hy23⟩), (show 0 ≤ rp.toInt ∧ rp.toInt ≤ 160 from ⟨hy13, hy14⟩), (show (-1) ≤ rf.toInt ∧ rf.toInt ≤ 160 from ⟨hy16, hy17⟩), (show 0 ≤ rt.toInt ∧ rt.toInt ≤ 40 from ⟨hy18, hy19⟩), (show 0 ≤ ru.toInt ∧ ru.toInt ≤ 8 from ⟨hy20, hy21⟩), (show 0 ≤ de.toInt ∧ de.toInt ≤ 24 from ⟨hy26, hy27⟩), (show 0 ≤ hu.toInt ∧ hu.toInt ≤ 9 from ⟨hy28, hy29⟩), (show 4 ≤ sz.toInt ∧ sz.toInt ≤ 40 from ⟨hy30, hy31⟩), (show 0 ≤ at_.toInt ∧ at_.toInt ≤ 40 from ⟨hy32, hy33⟩), (show 1 ≤ gp.toInt ∧ gp.toInt ≤ 9 from ⟨hy34, hy35⟩), hp_fl, hp_fs, hp_fc, (show 0 ≤ cn.toInt ∧ cn.toInt ≤ 8 from ⟨hy24, hy25⟩), (by intro z hz; simp at hz), (show zExt [] fp cn kf af tf fp cn kf af tf from by first | exact zExt.refl | assumption), (show rp.toInt ≤ rz.toInt from by omega), (show zJac (fun j => (fe j).toInt32) si.toInt s_.toInt he.toInt lf.toInt cn.toInt sz.toInt ((-2) : Int32).toInt lf.toInt cn.toInt sz.toInt from by (unfold zJac; have k9 : ((-2) : Int32).toInt = -2 := (by decide); first | (left; omega) | (right; left; omega) | (right; right; left; omega))), (show (1 ≤ ((-2) : Int32).toInt → ∀ j : Nat, j < 40 → fl j = zRl (zDI (fun j : Nat => (fe j).toInt32) si.toInt sz.toInt cn.toInt) fl ((-2) : Int32).toInt.toNat j) from by (have k9 : ((-2) : Int32).toInt = -2 := (by decide); intro h; exfalso; omega)), (show (1 ≤ ((-2) : Int32).toInt → ∀ j : Nat, j < 40 → fs j = zRs (zDI (fun j : Nat => (fe j).toInt32) si.toInt sz.toInt cn.toInt) fs ((-2) : Int32).toInt.toNat j) from by (have k9 : ((-2) : Int32).toInt = -2 := (by decide); intro h; exfalso; omega)), (show (1 ≤ ((-2) : Int32).toInt → ∀ j : Nat, j < 8 → kf j = zRk (zDI (fun j : Nat => (fe j).toInt32) si.toInt sz.toInt cn.toInt) cn.toInt kf ((-2) : Int32).toInt.toNat j ∧ af j = zRa (zDI (fun j : Nat => (fe j).toInt32) si.toInt sz.toInt cn.toInt) cn.toInt af ((-2) : Int32).toInt.toNat j ∧ tf j = zRt (zDI (fun j : Nat => (fe j).toInt32) si.toInt sz.toInt cn.toInt) cn.toInt tf ((-2) : Int32).toInt.toNat j) from by (have k9 : ((-2) : Int32).toInt = -2 := (by decide); intro h; exfalso; omega)), (show (1 ≤ ((-2) : Int32).toInt → ∀ j : Nat, j < 3 → fc j = zRc (zDI (fun j : Nat => (fe j).toInt32) si.toInt sz.toInt cn.toInt) fc ((-2) : Int32).toInt.toNat j) from by (have k9 : ((-2) : Int32).toInt = -2 := (by decide); intro h; exfalso; omega)), (show (1 ≤ ((-2) : Int32).toInt → de.toInt = zRn 4 (zDI (fun j : Nat => (fe j).toInt32) si.toInt sz.toInt cn.toInt) de.toInt ((-2) : Int32).toInt.toNat ∧ se.toInt = zRn 5 (zDI (fun j : Nat => (fe j).toInt32) si.toInt sz.toInt cn.toInt) se.toInt ((-2) : Int32).toInt.toNat ∧ hu.toInt = zRn 6 (zDI (fun j : Nat => (fe j).toInt32) si.toInt sz.toInt cn.toInt) hu.toInt ((-2) : Int32).toInt.toNat ∧ gp.toInt = zRn 7 (zDI (fun j : Nat => (fe j).toInt32) si.toInt sz.toInt cn.toInt) gp.toInt ((-2) : Int32).toInt.toNat ∧ at_.toInt = zRat (zDI (fun j : Nat => (fe j).toInt32) si.toInt sz.toInt cn.toInt) at_.toInt ((-2) : Int32).toInt.toNat) from by (have k9 : ((-2) : Int32).toInt = -2 := (by decide); intro h; exfalso; omega)), (show (((-2) : Int32).toInt < 1 → fl = fl ∧ fs = fs ∧ kf = kf ∧ af = af ∧ tf = tf ∧ fc = fc ∧ de = de ∧ se = se ∧ hu = hu ∧ gp = gp ∧ at_ = at_) from by (intro _; exact ⟨rfl, rfl, rfl, rfl, rfl, rfl, rfl, rfl, rfl, rfl, rfl⟩)), trivial⟩, zRet ht hP hD [12, 13, 0, 1, 2, 3, 4, 5, 6, 7, 8, 9, 10, 11] (by decide) rfl⟩, hS.F ht⟩) hS.2.2 dX7_jacket_30
    · refine lv_istore_n (lv' := [(3, .int 3), (2, .ref h0), (0, .ref x0), (1, .int s_)]) hx hb dX7_jacket_20 rfl hl (by decide) rfl (fun ls hl => ?_)
      refine lv_iload_n hx hb dX7_jacket_21 rfl (lv_at hl 0 rfl) ?_
      refine lv_if_eq (tgt := 31) hx hb dX7_jacket_22 (by decide) (fun c_23 => ?_) (fun c_23 => ?_)
      · exact absurd c_23 (by decide)
      · refine lv_aload_n hx hb dX7_jacket_25 rfl (lv_at hl 2 rfl) ?_
        refine lv_iload_n hx hb dX7_jacket_26 rfl (lv_at hl 0 rfl) ?_
        skip
        refine zw_V (As := [.int 3]) (rest := []) (wr := [(xs, .inl (cS, 8, .inr (.inr (.inr (.inr fh))))), (h0, .inr (4, [.ref e0, .int he, .int si])), (e0, .inl (cJ, 160, .inr (.inl fe))), (rd, .inr (3, [.ref ri, .ref rl, .int rz, .int rc, .int rp, .int rf, .int rt, .int ru])), (rl, .inl (cI, 160, .inl fle)), (ri, .inl (cI, 132, .inl fi)), (j0, .inr (0, [.ref z0, .ref jp, .ref jc, .int cn, .int de, .int tr, .int se, .int hu, .int sd])), (z0, .inr (6, [.ref zl, .ref zs, .int sz, .int at_, .int gp])), (zl, .inl (cZ, 40, .inl fl)), (zs, .inl (cI, 40, .inl fs)), (jp, .inl (cP, 8, .inr (.inr (.inr (.inr fp))))), (jc, .inl (cI, 3, .inl fc))]) ⟨hx, hb, hml, hown, hts⟩ (c_X_refuse_3 l D cI cJ cZ cP cS po x0 xs j0 k0 w0 rd mv xr (im) (lf) fr hy0 hy1 hy2 hy3 H.size) (cwV 1 hts gX7_jacket_X7_refuse rfl rfl rfl ⟨rfl, dh_X7_refuse⟩ ⟨Nat.le_of_ble_eq_true rfl, Nat.le_of_ble_eq_true rfl⟩) hK hN (hZ.kept hS) hP hD hS hA [0, 1] [2, 3, 4, 5, 6, 7, 8, 9, 10, 11, 12, 13] rfl rfl (by decide) (by decide) (by decide) (va_recv (q := (RX7, TX7, 9)) hK hP (ci := 7) (q0 := 0) rfl rfl) rfl hl.1 rfl (Nat.le_of_ble_eq_true rfl) dX7_jacket_27 ⟨Nat.le_of_ble_eq_true rfl, Nat.le_of_ble_eq_true rfl⟩ (fun r_24 u_25 H locs hr_24 hP hD hS => ?_)
        obtain ⟨q_26, rfl⟩ : ∃ z, z = u_25 := ⟨_, rfl⟩
        have h9R := zRe (ws' := [(xs, .inl (cS, 8, .inr (.inr (.inr (.inr fh))))), (h0, .inr (4, [.ref e0, .int he, .int si])), (e0, .inl (cJ, 160, .inr (.inl fe))), (rd, .inr (3, [.ref ri, .ref rl, .int rz, .int rc, .int rp, .int rf, .int rt, .int ru])), (rl, .inl (cI, 160, .inl fle)), (ri, .inl (cI, 132, .inl fi)), (j0, .inr (0, [.ref z0, .ref jp, .ref jc, .int cn, .int de, .int tr, .int se, .int hu, .int sd])), (z0, .inr (6, [.ref zl, .ref zs, .int sz, .int at_, .int gp])), (zl, .inl (cZ, 40, .inl fl)), (zs, .inl (cI, 40, .inl fs)), (jp, .inl (cP, 8, .inr (.inr (.inr (.inr fp))))), (jc, .inl (cI, 3, .inl fc)), (x0, .inr (7, [.ref xs, .ref j0, .ref k0, .ref w0, .ref rd, .ref mv, .ref xr, .int im, .int lf])), (xr, .inl (cI, 8, .inl q_26))]) hP hD rfl
        clear hP hD
        obtain ⟨hP, hD⟩ := h9R
        obtain rfl := hr_24
        refine W.widen (k := 40) (n := 120) (Nat.le_of_ble_eq_true rfl) (Nat.le_of_ble_eq_true rfl) ?_
        exact W.iret (v := (-3)) hx hb hr (fun t ht hW => ⟨⟨(-3), (lf, rz, rc, rp, rf, rt, ru, fi, fle, de, se, hu, sz, at_, gp, fl, fs, fc, cn, fp, q_26, kf, af, tf, []), rfl, ⟨(show (-1) ≤ lf.toInt ∧ lf.toInt ≤ 160 from ⟨hy2, hy3⟩), (show 0 ≤ rz.toInt ∧ rz.toInt ≤ 160 from ⟨hy9, hy10⟩), (show 0 ≤ rc.toInt ∧ rc.toInt ≤ 33 from ⟨hy11, hy23⟩), (show 0 ≤ rp.toInt ∧ rp.toInt ≤ 160 from ⟨hy13, hy14⟩), (show (-1) ≤ rf.toInt ∧ rf.toInt ≤ 160 from ⟨hy16, hy17⟩), (show 0 ≤ rt.toInt ∧ rt.toInt ≤ 40 from ⟨hy18, hy19⟩), (show 0 ≤ ru.toInt ∧ ru.toInt ≤ 8 from ⟨hy20, hy21⟩), (show 0 ≤ de.toInt ∧ de.toInt ≤ 24 from ⟨hy26, hy27⟩), (show 0 ≤ hu.toInt ∧ hu.toInt ≤ 9 from ⟨hy28, hy29⟩), (show 4 ≤ sz.toInt ∧ sz.toInt ≤ 40 from ⟨hy30, hy31⟩), (show 0 ≤ at_.toInt ∧ at_.toInt ≤ 40 from ⟨hy32, hy33⟩), (show 1 ≤ gp.toInt ∧ gp.toInt ≤ 9 from ⟨hy34, hy35⟩), hp_fl, hp_fs, hp_fc, (show 0 ≤ cn.toInt ∧ cn.toInt ≤ 8 from ⟨hy24, hy25⟩), (by intro z hz; simp at hz), (show zExt [] fp cn kf af tf fp cn kf af tf from by first | exact zExt.refl | assumption), (show rp.toInt ≤ rz.toInt from by omega), (show zJac (fun j => (fe j).toInt32) si.toInt s_.toInt he.toInt lf.toInt cn.toInt sz.toInt ((-3) : Int32).toInt lf.toInt cn.toInt sz.toInt from by (unfold zJac; have k9 : ((-3) : Int32).toInt = -3 := (by decide); first | (left; omega) | (right; left; omega) | (right; right; left; omega))), (show (1 ≤ ((-3) : Int32).toInt → ∀ j : Nat, j < 40 → fl j = zRl (zDI (fun j : Nat => (fe j).toInt32) si.toInt sz.toInt cn.toInt) fl ((-3) : Int32).toInt.toNat j) from by (have k9 : ((-3) : Int32).toInt = -3 := (by decide); intro h; exfalso; omega)), (show (1 ≤ ((-3) : Int32).toInt → ∀ j : Nat, j < 40 → fs j = zRs (zDI (fun j : Nat => (fe j).toInt32) si.toInt sz.toInt cn.toInt) fs ((-3) : Int32).toInt.toNat j) from by (have k9 : ((-3) : Int32).toInt = -3 := (by decide); intro h; exfalso; omega)), (show (1 ≤ ((-3) : Int32).toInt → ∀ j : Nat, j < 8 → kf j = zRk (zDI (fun j : Nat => (fe j).toInt32) si.toInt sz.toInt cn.toInt) cn.toInt kf ((-3) : Int32).toInt.toNat j ∧ af j = zRa (zDI (fun j : Nat => (fe j).toInt32) si.toInt sz.toInt cn.toInt) cn.toInt af ((-3) : Int32).toInt.toNat j ∧ tf j = zRt (zDI (fun j : Nat => (fe j).toInt32) si.toInt sz.toInt cn.toInt) cn.toInt tf ((-3) : Int32).toInt.toNat j) from by (have k9 : ((-3) : Int32).toInt = -3 := (by decide); intro h; exfalso; omega)), (show (1 ≤ ((-3) : Int32).toInt → ∀ j : Nat, j < 3 → fc j = zRc (zDI (fun j : Nat => (fe j).toInt32) si.toInt sz.toInt cn.toInt) fc ((-3) : Int32).toInt.toNat j) from by (have k9 : ((-3) : Int32).toInt = -3 := (by decide); intro h; exfalso; omega)), (show (1 ≤ ((-3) : Int32).toInt → de.toInt = zRn 4 (zDI (fun j : Nat => (fe j).toInt32) si.toInt sz.toInt cn.toInt) de.toInt ((-3) : Int32).toInt.toNat ∧ se.toInt = zRn 5 (zDI (fun j : Nat => (fe j).toInt32) si.toInt sz.toInt cn.toInt) se.toInt ((-3) : Int32).toInt.toNat ∧ hu.toInt = zRn 6 (zDI (fun j : Nat => (fe j).toInt32) si.toInt sz.toInt cn.toInt) hu.toInt ((-3) : Int32).toInt.toNat ∧ gp.toInt = zRn 7 (zDI (fun j : Nat => (fe j).toInt32) si.toInt sz.toInt cn.toInt) gp.toInt ((-3) : Int32).toInt.toNat ∧ at_.toInt = zRat (zDI (fun j : Nat => (fe j).toInt32) si.toInt sz.toInt cn.toInt) at_.toInt ((-3) : Int32).toInt.toNat) from by (have k9 : ((-3) : Int32).toInt = -3 := (by decide); intro h; exfalso; omega)), (show (((-3) : Int32).toInt < 1 → fl = fl ∧ fs = fs ∧ kf = kf ∧ af = af ∧ tf = tf ∧ fc = fc ∧ de = de ∧ se = se ∧ hu = hu ∧ gp = gp ∧ at_ = at_) from by (intro _; exact ⟨rfl, rfl, rfl, rfl, rfl, rfl, rfl, rfl, rfl, rfl, rfl⟩)), trivial⟩, zRet ht hP hD [12, 13, 0, 1, 2, 3, 4, 5, 6, 7, 8, 9, 10, 11] (by decide) rfl⟩, hS.F ht⟩) hS.2.2 dX7_jacket_30
    · refine lv_istore_n (lv' := [(3, .int 0), (2, .ref h0), (0, .ref x0), (1, .int s_)]) hx hb dX7_jacket_20 rfl hl (by decide) rfl (fun ls hl => ?_)
      refine lv_iload_n hx hb dX7_jacket_21 rfl (lv_at hl 0 rfl) ?_
      refine lv_if_eq (tgt := 31) hx hb dX7_jacket_22 (by decide) (fun c_27 => ?_) (fun c_27 => ?_)
      · refine lv_aload_n hx hb dX7_jacket_31 rfl (lv_at hl 2 rfl) ?_
        refine lv_aload_n hx hb dX7_jacket_32 rfl (lv_at hl 2 rfl) ?_
        refine va_get (D := D) (ci := 7) (v := .ref rd) (C := RX7) (T := TX7) (N := 9) hx hb hts hi_X7_jacket_7 hown hK hP 0 rfl rfl 4 (by decide) (hts (.fieldLink RX7 35 "TheLiningsInIt" "reader" "LTheLiningsInIt$Reader;") (List.mem_of_getElem? (i := 1) rfl)) (fun _ h9 => h9) rfl dX7_jacket_33 ?_
        refine lv_aload_n hx hb dX7_jacket_36 rfl (lv_at hl 1 rfl) ?_
        refine lv_aload_n hx hb dX7_jacket_37 rfl (lv_at hl 2 rfl) ?_
        refine va_get (D := D) (ci := 7) (v := .ref j0) (C := RX7) (T := TX7) (N := 9) hx hb hts hi_X7_jacket_7 hown hK hP 0 rfl rfl 1 (by decide) (hts (.fieldLink RX7 18 "TheLiningsInIt" "now" "LTheLiningsInIt$Jacket;") (List.mem_of_getElem? (i := 2) rfl)) (fun _ h9 => h9) rfl dX7_jacket_38 ?_
        refine va_get (D := D) (ci := 0) (v := .ref z0) (C := RX0) (T := TX0) (N := 9) hx hb hts hi_X7_jacket_0 hown hK hP 8 rfl rfl 0 (by decide) (hts (.fieldLink RX7 140 "TheLiningsInIt$Jacket" "zip" "LTheLiningsInIt$Zip;") (List.mem_of_getElem? (i := 3) rfl)) (fun _ h9 => h9) rfl dX7_jacket_41 ?_
        refine va_get (D := D) (ci := 6) (v := .int sz) (C := RX6) (T := TX6) (N := 5) hx hb hts hi_X7_jacket_6 hown hK hP 9 rfl rfl 2 (by decide) (hts (.fieldLink RX7 144 "TheLiningsInIt$Zip" "size" "I") (List.mem_of_getElem? (i := 4) rfl)) (fun _ h9 => h9) rfl dX7_jacket_44 ?_
        refine lv_aload_n hx hb dX7_jacket_47 rfl (lv_at hl 2 rfl) ?_
        refine va_get (D := D) (ci := 7) (v := .ref j0) (C := RX7) (T := TX7) (N := 9) hx hb hts hi_X7_jacket_7 hown hK hP 0 rfl rfl 1 (by decide) (hts (.fieldLink RX7 18 "TheLiningsInIt" "now" "LTheLiningsInIt$Jacket;") (List.mem_of_getElem? (i := 2) rfl)) (fun _ h9 => h9) rfl dX7_jacket_48 ?_
        refine va_get (D := D) (ci := 0) (v := .int cn) (C := RX0) (T := TX0) (N := 9) hx hb hts hi_X7_jacket_0 hown hK hP 8 rfl rfl 3 (by decide) (hts (.fieldLink RX7 123 "TheLiningsInIt$Jacket" "pullCount" "I") (List.mem_of_getElem? (i := 5) rfl)) (fun _ h9 => h9) rfl dX7_jacket_51 ?_
        skip
        refine zw_V (As := [.ref h0, .int sz, .int cn]) (rest := [.ref x0]) (wr := [(x0, .inr (7, [.ref xs, .ref j0, .ref k0, .ref w0, .ref rd, .ref mv, .ref xr, .int im, .int lf])), (xr, .inl (cI, 8, .inl fr)), (xs, .inl (cS, 8, .inr (.inr (.inr (.inr fh))))), (j0, .inr (0, [.ref z0, .ref jp, .ref jc, .int cn, .int de, .int tr, .int se, .int hu, .int sd])), (z0, .inr (6, [.ref zl, .ref zs, .int sz, .int at_, .int gp])), (zl, .inl (cZ, 40, .inl fl)), (zs, .inl (cI, 40, .inl fs)), (jp, .inl (cP, 8, .inr (.inr (.inr (.inr fp))))), (jc, .inl (cI, 3, .inl fc))]) ⟨hx, hb, hml, hown, hts⟩ (c_F_R_read l D cI cJ cZ cP cS po rd ri rl (rz) (rc) (rp) (rf) (rt) (ru) fle fi h0 e0 (he) (si) fe (sz) (cn) hy9 hy10 hy11 hy12 hy13 hy14 (by omega) hy16 hy17 hy18 hy19 hy20 hy21 hy4 hy5 hy6 hy7 hy30 hy31 hy24 hy25 H.size) (cwV 3 hts gX7_jacket_X3_read rfl rfl rfl ⟨rfl, dh_X3_read⟩ ⟨Nat.le_of_ble_eq_true rfl, Nat.le_of_ble_eq_true rfl⟩) hK hN (hZ.kept hS) hP hD hS hA [5, 6, 7, 3, 4] [0, 1, 2, 8, 9, 10, 11, 12, 13] rfl rfl (by decide) (by decide) (by decide) (va_recv (q := (RX3, TX3, 8)) hK hP (ci := 3) (q0 := 5) rfl rfl) rfl hl.1 rfl (Nat.le_of_ble_eq_true rfl) dX7_jacket_54 ⟨Nat.le_of_ble_eq_true rfl, Nat.le_of_ble_eq_true rfl⟩ (fun r_28 u_29 H locs hr_28 hP hD hS => ?_)
        obtain ⟨q_30, q_31, q_32, q_33, q_34, q_35, q_36, q_37⟩ := u_29
        try dsimp only at hr_28
        obtain ⟨hbq_30, hbq_31, hbq_32, hbq_33, hbq_34, hbq_35, hsr_28_0, hsr_28_1, hsr_28_2, hsr_28_3, hsr_28_4, hsr_28_5, hsr_28_6, hsr_28_7, hsr_28_8, hr_28⟩ := hr_28
        have h9R := zRe (ws' := [(x0, .inr (7, [.ref xs, .ref j0, .ref k0, .ref w0, .ref rd, .ref mv, .ref xr, .int im, .int lf])), (xr, .inl (cI, 8, .inl fr)), (xs, .inl (cS, 8, .inr (.inr (.inr (.inr fh))))), (j0, .inr (0, [.ref z0, .ref jp, .ref jc, .int cn, .int de, .int tr, .int se, .int hu, .int sd])), (z0, .inr (6, [.ref zl, .ref zs, .int sz, .int at_, .int gp])), (zl, .inl (cZ, 40, .inl fl)), (zs, .inl (cI, 40, .inl fs)), (jp, .inl (cP, 8, .inr (.inr (.inr (.inr fp))))), (jc, .inl (cI, 3, .inl fc)), (rd, .inr (3, [.ref ri, .ref rl, .int q_30, .int q_31, .int q_32, .int q_33, .int q_34, .int q_35])), (rl, .inl (cI, 160, .inl q_37)), (ri, .inl (cI, 132, .inl q_36)), (h0, .inr (4, [.ref e0, .int he, .int si])), (e0, .inl (cJ, 160, .inr (.inl fe)))]) hP hD rfl
        clear hP hD
        obtain ⟨hP, hD⟩ := h9R
        obtain ⟨g_38, g_39⟩ := hr_28
        refine va_put (D := D) (ci := 7) (v := .int r_28) (ty := .int) (C := RX7) (T := TX7) (N := 9) hx hb hts hi_X7_jacket_7 tyX7 tyX7_ok nmX7 hown hK hP hD hS 0 rfl rfl 8 (by decide) (hts (.fieldLink RX7 54 "TheLiningsInIt" "latestFault" "I") (List.mem_of_getElem? (i := 6) rfl)) (fun _ h9 => h9) rfl (tyX7_ok 8 (Nat.le_of_ble_eq_true rfl)) rfl rfl (Nat.le_of_ble_eq_true rfl) dX7_jacket_57 (fun H locs hP hD hS => ?_)
        have h9R := zRe (ws' := [(x0, .inr (7, [.ref xs, .ref j0, .ref k0, .ref w0, .ref rd, .ref mv, .ref xr, .int im, .int r_28])), (xr, .inl (cI, 8, .inl fr)), (xs, .inl (cS, 8, .inr (.inr (.inr (.inr fh))))), (j0, .inr (0, [.ref z0, .ref jp, .ref jc, .int cn, .int de, .int tr, .int se, .int hu, .int sd])), (z0, .inr (6, [.ref zl, .ref zs, .int sz, .int at_, .int gp])), (zl, .inl (cZ, 40, .inl fl)), (zs, .inl (cI, 40, .inl fs)), (jp, .inl (cP, 8, .inr (.inr (.inr (.inr fp))))), (jc, .inl (cI, 3, .inl fc)), (rd, .inr (3, [.ref ri, .ref rl, .int q_30, .int q_31, .int q_32, .int q_33, .int q_34, .int q_35])), (rl, .inl (cI, 160, .inl q_37)), (ri, .inl (cI, 132, .inl q_36)), (h0, .inr (4, [.ref e0, .int he, .int si])), (e0, .inl (cJ, 160, .inr (.inl fe)))]) hP hD rfl
        clear hP hD
        obtain ⟨hP, hD⟩ := h9R
        refine lv_aload_n hx hb dX7_jacket_60 rfl (lv_at hl 2 rfl) ?_
        refine va_get (D := D) (ci := 7) (v := .int r_28) (C := RX7) (T := TX7) (N := 9) hx hb hts hi_X7_jacket_7 hown hK hP 0 rfl rfl 8 (by decide) (hts (.fieldLink RX7 54 "TheLiningsInIt" "latestFault" "I") (List.mem_of_getElem? (i := 6) rfl)) (fun _ h9 => h9) rfl dX7_jacket_61 ?_
        refine lv_iconst (v := (-1)) hx hb dX7_jacket_64 (by decide) ?_
        refine lv_icmp_eq (tgt := 75) hx hb dX7_jacket_65 (by decide) (fun c_40 => ?_) (fun c_40 => ?_)
        · have fc_40 : r_28.toInt = (-1) := zf_eq c_40 rfl (by decide)
          refine lv_aload_n hx hb dX7_jacket_75 rfl (lv_at hl 2 rfl) ?_
          refine va_get (D := D) (ci := 7) (v := .ref rd) (C := RX7) (T := TX7) (N := 9) hx hb hts hi_X7_jacket_7 hown hK hP 0 rfl rfl 4 (by decide) (hts (.fieldLink RX7 35 "TheLiningsInIt" "reader" "LTheLiningsInIt$Reader;") (List.mem_of_getElem? (i := 1) rfl)) (fun _ h9 => h9) rfl dX7_jacket_76 ?_
          refine lv_aload_n hx hb dX7_jacket_79 rfl (lv_at hl 2 rfl) ?_
          refine va_get (D := D) (ci := 7) (v := .ref j0) (C := RX7) (T := TX7) (N := 9) hx hb hts hi_X7_jacket_7 hown hK hP 0 rfl rfl 1 (by decide) (hts (.fieldLink RX7 18 "TheLiningsInIt" "now" "LTheLiningsInIt$Jacket;") (List.mem_of_getElem? (i := 2) rfl)) (fun _ h9 => h9) rfl dX7_jacket_80 ?_
          skip
          refine zw_Vv (As := [.ref j0]) (rest := []) (wr := [(x0, .inr (7, [.ref xs, .ref j0, .ref k0, .ref w0, .ref rd, .ref mv, .ref xr, .int im, .int r_28])), (xr, .inl (cI, 8, .inl fr)), (xs, .inl (cS, 8, .inr (.inr (.inr (.inr fh))))), (rl, .inl (cI, 160, .inl q_37)), (h0, .inr (4, [.ref e0, .int he, .int si])), (e0, .inl (cJ, 160, .inr (.inl fe)))]) ⟨hx, hb, hml, hown, hts⟩ (c_F_R_tell l D cI cJ cZ cP cS po rd ri rl (q_30) (q_31) (q_32) (q_33) (q_34) (q_35) q_36 j0 jp jc z0 zl zs (cn) (de) (tr) (se) (hu) (sd) (sz) (at_) (gp) fl fs fp kf af tf fc hbq_30.1 hbq_30.2 hbq_31.1 (by omega) hbq_32.1 hbq_32.2 (by omega) hbq_33.1 hbq_33.2 hbq_34.1 hbq_34.2 hbq_35.1 hbq_35.2 hy24 hy25 hy26 hy27 hy28 hy29 hy30 hy31 hy32 hy33 hy34 hy35 hbq_31.1 hbq_31.2 (hsr_28_2 (by omega)) (by have z := (hsr_28_7 (by omega)).1; omega) hp_fl hp_fs hp_fc H.size) (cwV 1 hts gX7_jacket_X3_tell rfl rfl rfl ⟨rfl, dh_X3_tell⟩ ⟨Nat.le_of_ble_eq_true rfl, Nat.le_of_ble_eq_true rfl⟩) hK hN (hZ.kept hS) hP hD hS hA [9, 11, 3, 4, 5, 6, 7, 8] [0, 1, 2, 10, 12, 13] rfl rfl (by decide) (by decide) (by decide) (va_recv (q := (RX3, TX3, 8)) hK hP (ci := 3) (q0 := 9) rfl rfl) rfl hl.1 rfl (Nat.le_of_ble_eq_true rfl) dX7_jacket_83 ⟨Nat.le_of_ble_eq_true rfl, Nat.le_of_ble_eq_true rfl⟩ (fun u_42 H locs hr_41 hP hD hS => ?_)
          obtain ⟨q_43, q_44, q_45, q_46, q_47, q_48, q_49, q_50, q_51, q_52, q_53, q_54, q_55, q_56, q_57⟩ := u_42
          try dsimp only at hr_41
          obtain ⟨hbq_43, hbq_45, hbq_46, hbq_47, hbq_48, hpq_49, hpq_50, hpq_51, hbq_52, hnpq_57, hsr_41_0, hsr_41_1, hsr_41_2, hsr_41_3, hsr_41_4, hsr_41_5, hsr_41_6, hsr_41_7, hr_41⟩ := hr_41
          have h9R := zRe (ws' := ([(x0, .inr (7, [.ref xs, .ref j0, .ref k0, .ref w0, .ref rd, .ref mv, .ref xr, .int im, .int r_28])), (xr, .inl (cI, 8, .inl fr)), (xs, .inl (cS, 8, .inr (.inr (.inr (.inr fh))))), (rl, .inl (cI, 160, .inl q_37)), (h0, .inr (4, [.ref e0, .int he, .int si])), (e0, .inl (cJ, 160, .inr (.inl fe))), (rd, .inr (3, [.ref ri, .ref rl, .int q_30, .int q_31, .int q_32, .int q_33, .int q_34, .int q_35])), (ri, .inl (cI, 132, .inl q_36)), (j0, .inr (0, [.ref z0, .ref jp, .ref jc, .int q_52, .int q_43, .int tr, .int q_44, .int q_45, .int sd])), (z0, .inr (6, [.ref zl, .ref zs, .int q_46, .int q_47, .int q_48])), (zl, .inl (cZ, 40, .inl q_49)), (zs, .inl (cI, 40, .inl q_50)), (jp, .inl (cP, 8, .inr (.inr (.inr (.inr q_53))))), (jc, .inl (cI, 3, .inl q_51))] ++ (q_57.map zPo))) hP hD rfl
          clear hP hD
          obtain ⟨hP, hD⟩ := h9R
          refine W.widen (k := 40) (n := 120) (Nat.le_of_ble_eq_true rfl) (Nat.le_of_ble_eq_true rfl) ?_
          refine lv_aload_n hx hb dX7_jacket_86 rfl (lv_at hl 2 rfl) ?_
          refine va_get (D := D) (ci := 7) (v := .ref rd) (C := RX7) (T := TX7) (N := 9) hx hb hts hi_X7_jacket_7 hown hK hP 0 rfl rfl 4 (by decide) (hts (.fieldLink RX7 35 "TheLiningsInIt" "reader" "LTheLiningsInIt$Reader;") (List.mem_of_getElem? (i := 1) rfl)) (fun _ h9 => h9) rfl dX7_jacket_87 ?_
          refine va_get (D := D) (ci := 3) (v := .int q_31) (C := RX3) (T := TX3) (N := 8) hx hb hts hi_X7_jacket_3 hown hK hP 6 rfl rfl 3 (by decide) (hts (.fieldLink RX7 183 "TheLiningsInIt$Reader" "count" "I") (List.mem_of_getElem? (i := 7) rfl)) (fun _ h9 => h9) rfl dX7_jacket_90 ?_
          refine W.widen (k := 40) (n := 120) (Nat.le_of_ble_eq_true rfl) (Nat.le_of_ble_eq_true rfl) ?_
          exact W.iret (v := q_31) hx hb hr (fun t ht hW => ⟨⟨q_31, (r_28, q_30, q_31, q_32, q_33, q_34, q_35, q_36, q_37, q_43, q_44, q_45, q_46, q_47, q_48, q_49, q_50, q_51, q_52, q_53, fr, q_54, q_55, q_56, q_57), rfl, ⟨(show (-1) ≤ r_28.toInt ∧ r_28.toInt ≤ 160 from ⟨by omega, by omega⟩), (show 0 ≤ q_30.toInt ∧ q_30.toInt ≤ 160 from hbq_30), (show 0 ≤ q_31.toInt ∧ q_31.toInt ≤ 33 from hbq_31), (show 0 ≤ q_32.toInt ∧ q_32.toInt ≤ 160 from hbq_32), (show (-1) ≤ q_33.toInt ∧ q_33.toInt ≤ 160 from hbq_33), (show 0 ≤ q_34.toInt ∧ q_34.toInt ≤ 40 from hbq_34), (show 0 ≤ q_35.toInt ∧ q_35.toInt ≤ 8 from hbq_35), (show 0 ≤ q_43.toInt ∧ q_43.toInt ≤ 24 from hbq_43), (show 0 ≤ q_45.toInt ∧ q_45.toInt ≤ 9 from hbq_45), (show 4 ≤ q_46.toInt ∧ q_46.toInt ≤ 40 from hbq_46), (show 0 ≤ q_47.toInt ∧ q_47.toInt ≤ 40 from hbq_47), (show 1 ≤ q_48.toInt ∧ q_48.toInt ≤ 9 from hbq_48), hpq_49, hpq_50, hpq_51, (show 0 ≤ q_52.toInt ∧ q_52.toInt ≤ 8 from hbq_52), hnpq_57, (show zExt q_57 fp cn kf af tf q_53 q_52 q_54 q_55 q_56 from by first | exact zExt.refl | assumption), (show q_32.toInt ≤ q_30.toInt from by omega), (show zJac (fun j => (fe j).toInt32) si.toInt s_.toInt he.toInt lf.toInt cn.toInt sz.toInt (q_31 : Int32).toInt r_28.toInt q_52.toInt q_46.toInt from by (have z0 := hsr_28_5; have z1 := hsr_28_4; have z2 := zEnd_congr (g := fun j => (fe j).toInt32) (fun j h1 h2 => z1 j.toNat (by omega)) (by omega) ⟨by omega, by omega⟩ ⟨by omega, by omega⟩ z0; rw [show (q_30 : Int32).toInt = si.toInt from by omega] at z2; obtain ⟨c1, c2⟩ := hsr_28_7 (by omega); unfold zJac; refine Or.inr (Or.inr (Or.inr ⟨by omega, by omega, _, _, _, _, z2, Or.inr ⟨by omega, by omega, by omega, ?_, ?_⟩⟩)); (rw [hsr_41_1]; omega); (rw [hsr_41_2]; omega))), (show (1 ≤ (q_31 : Int32).toInt → ∀ j : Nat, j < 40 → q_49 j = zRl (zDI (fun j : Nat => (fe j).toInt32) si.toInt sz.toInt cn.toInt) fl (q_31 : Int32).toInt.toNat j) from by (intro _; have z1 := hsr_28_4; have hSM : ∀ k : Nat, k < (q_31 : Int32).toInt.toNat → zSm (zDF q_36 k) ((zDI (fun j : Nat => (fe j).toInt32) si.toInt sz.toInt cn.toInt) k) := (fun k hk => by (have z := zKI_dj (g := (fun j : Nat => (fe j).toInt32)) (fun j h1 h2 => z1 j.toNat (by omega)) (by omega) ⟨by omega, by omega⟩ ⟨by omega, by omega⟩ (hsr_28_8 (by omega) k hk); rw [show (q_30 : Int32).toInt = si.toInt from by omega] at z; exact z)); intro j hj; rw [hsr_41_3 j hj]; exact zRl_sm hSM (fun _ _ => rfl) j hj)), (show (1 ≤ (q_31 : Int32).toInt → ∀ j : Nat, j < 40 → q_50 j = zRs (zDI (fun j : Nat => (fe j).toInt32) si.toInt sz.toInt cn.toInt) fs (q_31 : Int32).toInt.toNat j) from by (intro _; have z1 := hsr_28_4; have hSM : ∀ k : Nat, k < (q_31 : Int32).toInt.toNat → zSm (zDF q_36 k) ((zDI (fun j : Nat => (fe j).toInt32) si.toInt sz.toInt cn.toInt) k) := (fun k hk => by (have z := zKI_dj (g := (fun j : Nat => (fe j).toInt32)) (fun j h1 h2 => z1 j.toNat (by omega)) (by omega) ⟨by omega, by omega⟩ ⟨by omega, by omega⟩ (hsr_28_8 (by omega) k hk); rw [show (q_30 : Int32).toInt = si.toInt from by omega] at z; exact z)); intro j hj; rw [hsr_41_4 j hj]; exact zRs_sm hSM (fun _ _ => rfl) j hj)), (show (1 ≤ (q_31 : Int32).toInt → ∀ j : Nat, j < 8 → q_54 j = zRk (zDI (fun j : Nat => (fe j).toInt32) si.toInt sz.toInt cn.toInt) cn.toInt kf (q_31 : Int32).toInt.toNat j ∧ q_55 j = zRa (zDI (fun j : Nat => (fe j).toInt32) si.toInt sz.toInt cn.toInt) cn.toInt af (q_31 : Int32).toInt.toNat j ∧ q_56 j = zRt (zDI (fun j : Nat => (fe j).toInt32) si.toInt sz.toInt cn.toInt) cn.toInt tf (q_31 : Int32).toInt.toNat j) from by (intro _; have z1 := hsr_28_4; have hSM : ∀ k : Nat, k < (q_31 : Int32).toInt.toNat → zSm (zDF q_36 k) ((zDI (fun j : Nat => (fe j).toInt32) si.toInt sz.toInt cn.toInt) k) := (fun k hk => by (have z := zKI_dj (g := (fun j : Nat => (fe j).toInt32)) (fun j h1 h2 => z1 j.toNat (by omega)) (by omega) ⟨by omega, by omega⟩ ⟨by omega, by omega⟩ (hsr_28_8 (by omega) k hk); rw [show (q_30 : Int32).toInt = si.toInt from by omega] at z; exact z)); intro j hj; obtain ⟨y1, y2, y3⟩ := hsr_41_5; rw [y1, y2, y3]; exact ⟨zRk_sm (N := 8) hSM (fun _ _ => rfl) j hj, zRa_sm (N := 8) hSM (fun _ _ => rfl) j hj, zRt_sm (N := 8) hSM (fun _ _ => rfl) j hj⟩)), (show (1 ≤ (q_31 : Int32).toInt → ∀ j : Nat, j < 3 → q_51 j = zRc (zDI (fun j : Nat => (fe j).toInt32) si.toInt sz.toInt cn.toInt) fc (q_31 : Int32).toInt.toNat j) from by (intro _; have z1 := hsr_28_4; have hSM : ∀ k : Nat, k < (q_31 : Int32).toInt.toNat → zSm (zDF q_36 k) ((zDI (fun j : Nat => (fe j).toInt32) si.toInt sz.toInt cn.toInt) k) := (fun k hk => by (have z := zKI_dj (g := (fun j : Nat => (fe j).toInt32)) (fun j h1 h2 => z1 j.toNat (by omega)) (by omega) ⟨by omega, by omega⟩ ⟨by omega, by omega⟩ (hsr_28_8 (by omega) k hk); rw [show (q_30 : Int32).toInt = si.toInt from by omega] at z; exact z)); intro j hj; rw [hsr_41_6]; exact zRc_sm (N := 3) hSM (fun _ _ => rfl) j hj)), (show (1 ≤ (q_31 : Int32).toInt → q_43.toInt = zRn 4 (zDI (fun j : Nat => (fe j).toInt32) si.toInt sz.toInt cn.toInt) de.toInt (q_31 : Int32).toInt.toNat ∧ q_44.toInt = zRn 5 (zDI (fun j : Nat => (fe j).toInt32) si.toInt sz.toInt cn.toInt) se.toInt (q_31 : Int32).toInt.toNat ∧ q_45.toInt = zRn 6 (zDI (fun j : Nat => (fe j).toInt32) si.toInt sz.toInt cn.toInt) hu.toInt (q_31 : Int32).toInt.toNat ∧ q_48.toInt = zRn 7 (zDI (fun j : Nat => (fe j).toInt32) si.toInt sz.toInt cn.toInt) gp.toInt (q_31 : Int32).toInt.toNat ∧ q_47.toInt = zRat (zDI (fun j : Nat => (fe j).toInt32) si.toInt sz.toInt cn.toInt) at_.toInt (q_31 : Int32).toInt.toNat) from by (intro _; have z1 := hsr_28_4; have hSM : ∀ k : Nat, k < (q_31 : Int32).toInt.toNat → zSm (zDF q_36 k) ((zDI (fun j : Nat => (fe j).toInt32) si.toInt sz.toInt cn.toInt) k) := (fun k hk => by (have z := zKI_dj (g := (fun j : Nat => (fe j).toInt32)) (fun j h1 h2 => z1 j.toNat (by omega)) (by omega) ⟨by omega, by omega⟩ ⟨by omega, by omega⟩ (hsr_28_8 (by omega) k hk); rw [show (q_30 : Int32).toInt = si.toInt from by omega] at z; exact z)); obtain ⟨y1, y2, y3, y4, y5⟩ := hsr_41_7; rw [y1, y2, y3, y4, y5]; exact ⟨zRn_sm hSM rfl, zRn_sm hSM rfl, zRn_sm hSM rfl, zRn_sm hSM rfl, zRat_sm hSM rfl⟩)), (show ((q_31 : Int32).toInt < 1 → q_49 = fl ∧ q_50 = fs ∧ q_54 = kf ∧ q_55 = af ∧ q_56 = tf ∧ q_51 = fc ∧ q_43 = de ∧ q_44 = se ∧ q_45 = hu ∧ q_48 = gp ∧ q_47 = at_) from by (intro h; exfalso; omega)), trivial⟩, by rw [ht]; exact hP.part (cx := [(x0, .inr (7, [.ref xs, .ref j0, .ref k0, .ref w0, .ref rd, .ref mv, .ref xr, .int im, .int r_28])), (xr, .inl (cI, 8, .inl fr)), (xs, .inl (cS, 8, .inr (.inr (.inr (.inr fh))))), (h0, .inr (4, [.ref e0, .int he, .int si])), (e0, .inl (cJ, 160, .inr (.inl fe))), (rd, .inr (3, [.ref ri, .ref rl, .int q_30, .int q_31, .int q_32, .int q_33, .int q_34, .int q_35])), (rl, .inl (cI, 160, .inl q_37)), (ri, .inl (cI, 132, .inl q_36)), (j0, .inr (0, [.ref z0, .ref jp, .ref jc, .int q_52, .int q_43, .int tr, .int q_44, .int q_45, .int sd])), (z0, .inr (6, [.ref zl, .ref zs, .int q_46, .int q_47, .int q_48])), (zl, .inl (cZ, 40, .inl q_49)), (zs, .inl (cI, 40, .inl q_50)), (jp, .inl (cP, 8, .inr (.inr (.inr (.inr q_53))))), (jc, .inl (cI, 3, .inl q_51))]) (pl := (q_57.map zPo)) [0, 1, 2, 4, 5, 6, 3, 7, 8, 9, 10, 11, 12, 13] rfl, hD.part (cx := [(x0, .inr (7, [.ref xs, .ref j0, .ref k0, .ref w0, .ref rd, .ref mv, .ref xr, .int im, .int r_28])), (xr, .inl (cI, 8, .inl fr)), (xs, .inl (cS, 8, .inr (.inr (.inr (.inr fh))))), (h0, .inr (4, [.ref e0, .int he, .int si])), (e0, .inl (cJ, 160, .inr (.inl fe))), (rd, .inr (3, [.ref ri, .ref rl, .int q_30, .int q_31, .int q_32, .int q_33, .int q_34, .int q_35])), (rl, .inl (cI, 160, .inl q_37)), (ri, .inl (cI, 132, .inl q_36)), (j0, .inr (0, [.ref z0, .ref jp, .ref jc, .int q_52, .int q_43, .int tr, .int q_44, .int q_45, .int sd])), (z0, .inr (6, [.ref zl, .ref zs, .int q_46, .int q_47, .int q_48])), (zl, .inl (cZ, 40, .inl q_49)), (zs, .inl (cI, 40, .inl q_50)), (jp, .inl (cP, 8, .inr (.inr (.inr (.inr q_53))))), (jc, .inl (cI, 3, .inl q_51))]) (pl := (q_57.map zPo)) [0, 1, 2, 4, 5, 6, 3, 7, 8, 9, 10, 11, 12, 13] (by decide) rfl⟩, hS.F ht⟩) hS.2.2 dX7_jacket_93
        · have fc_40 : r_28.toInt ≠ (-1) := zf_ne c_40 rfl (by decide)
          refine lv_aload_n hx hb dX7_jacket_68 rfl (lv_at hl 2 rfl) ?_
          refine lv_bipush (v := 6) hx hb dX7_jacket_69 (by decide) ?_
          skip
          refine zw_V (As := [.int 6]) (rest := []) (wr := [(xs, .inl (cS, 8, .inr (.inr (.inr (.inr fh))))), (j0, .inr (0, [.ref z0, .ref jp, .ref jc, .int cn, .int de, .int tr, .int se, .int hu, .int sd])), (z0, .inr (6, [.ref zl, .ref zs, .int sz, .int at_, .int gp])), (zl, .inl (cZ, 40, .inl fl)), (zs, .inl (cI, 40, .inl fs)), (jp, .inl (cP, 8, .inr (.inr (.inr (.inr fp))))), (jc, .inl (cI, 3, .inl fc)), (rd, .inr (3, [.ref ri, .ref rl, .int q_30, .int q_31, .int q_32, .int q_33, .int q_34, .int q_35])), (rl, .inl (cI, 160, .inl q_37)), (ri, .inl (cI, 132, .inl q_36)), (h0, .inr (4, [.ref e0, .int he, .int si])), (e0, .inl (cJ, 160, .inr (.inl fe)))]) ⟨hx, hb, hml, hown, hts⟩ (c_X_refuse_6 l D cI cJ cZ cP cS po x0 xs j0 k0 w0 rd mv xr (im) (r_28) fr hy0 hy1 (by omega) (by omega) H.size) (cwV 1 hts gX7_jacket_X7_refuse rfl rfl rfl ⟨rfl, dh_X7_refuse⟩ ⟨Nat.le_of_ble_eq_true rfl, Nat.le_of_ble_eq_true rfl⟩) hK hN (hZ.kept hS) hP hD hS hA [0, 1] [2, 3, 4, 5, 6, 7, 8, 9, 10, 11, 12, 13] rfl rfl (by decide) (by decide) (by decide) (va_recv (q := (RX7, TX7, 9)) hK hP (ci := 7) (q0 := 0) rfl rfl) rfl hl.1 rfl (Nat.le_of_ble_eq_true rfl) dX7_jacket_71 ⟨Nat.le_of_ble_eq_true rfl, Nat.le_of_ble_eq_true rfl⟩ (fun r_58 u_59 H locs hr_58 hP hD hS => ?_)
          obtain ⟨q_60, rfl⟩ : ∃ z, z = u_59 := ⟨_, rfl⟩
          have h9R := zRe (ws' := [(xs, .inl (cS, 8, .inr (.inr (.inr (.inr fh))))), (j0, .inr (0, [.ref z0, .ref jp, .ref jc, .int cn, .int de, .int tr, .int se, .int hu, .int sd])), (z0, .inr (6, [.ref zl, .ref zs, .int sz, .int at_, .int gp])), (zl, .inl (cZ, 40, .inl fl)), (zs, .inl (cI, 40, .inl fs)), (jp, .inl (cP, 8, .inr (.inr (.inr (.inr fp))))), (jc, .inl (cI, 3, .inl fc)), (rd, .inr (3, [.ref ri, .ref rl, .int q_30, .int q_31, .int q_32, .int q_33, .int q_34, .int q_35])), (rl, .inl (cI, 160, .inl q_37)), (ri, .inl (cI, 132, .inl q_36)), (h0, .inr (4, [.ref e0, .int he, .int si])), (e0, .inl (cJ, 160, .inr (.inl fe))), (x0, .inr (7, [.ref xs, .ref j0, .ref k0, .ref w0, .ref rd, .ref mv, .ref xr, .int im, .int r_28])), (xr, .inl (cI, 8, .inl q_60))]) hP hD rfl
          clear hP hD
          obtain ⟨hP, hD⟩ := h9R
          obtain rfl := hr_58
          refine W.widen (k := 40) (n := 120) (Nat.le_of_ble_eq_true rfl) (Nat.le_of_ble_eq_true rfl) ?_
          exact W.iret (v := (-6)) hx hb hr (fun t ht hW => ⟨⟨(-6), (r_28, q_30, q_31, q_32, q_33, q_34, q_35, q_36, q_37, de, se, hu, sz, at_, gp, fl, fs, fc, cn, fp, q_60, kf, af, tf, []), rfl, ⟨(show (-1) ≤ r_28.toInt ∧ r_28.toInt ≤ 160 from ⟨by omega, by omega⟩), (show 0 ≤ q_30.toInt ∧ q_30.toInt ≤ 160 from hbq_30), (show 0 ≤ q_31.toInt ∧ q_31.toInt ≤ 33 from hbq_31), (show 0 ≤ q_32.toInt ∧ q_32.toInt ≤ 160 from hbq_32), (show (-1) ≤ q_33.toInt ∧ q_33.toInt ≤ 160 from hbq_33), (show 0 ≤ q_34.toInt ∧ q_34.toInt ≤ 40 from hbq_34), (show 0 ≤ q_35.toInt ∧ q_35.toInt ≤ 8 from hbq_35), (show 0 ≤ de.toInt ∧ de.toInt ≤ 24 from ⟨hy26, hy27⟩), (show 0 ≤ hu.toInt ∧ hu.toInt ≤ 9 from ⟨hy28, hy29⟩), (show 4 ≤ sz.toInt ∧ sz.toInt ≤ 40 from ⟨hy30, hy31⟩), (show 0 ≤ at_.toInt ∧ at_.toInt ≤ 40 from ⟨hy32, hy33⟩), (show 1 ≤ gp.toInt ∧ gp.toInt ≤ 9 from ⟨hy34, hy35⟩), hp_fl, hp_fs, hp_fc, (show 0 ≤ cn.toInt ∧ cn.toInt ≤ 8 from ⟨hy24, hy25⟩), (by intro z hz; simp at hz), (show zExt [] fp cn kf af tf fp cn kf af tf from by first | exact zExt.refl | assumption), (show q_32.toInt ≤ q_30.toInt from by omega), (show zJac (fun j => (fe j).toInt32) si.toInt s_.toInt he.toInt lf.toInt cn.toInt sz.toInt ((-6) : Int32).toInt r_28.toInt cn.toInt sz.toInt from by (have z0 := hsr_28_5; have z1 := hsr_28_4; have z2 := zEnd_congr (g := fun j => (fe j).toInt32) (fun j h1 h2 => z1 j.toNat (by omega)) (by omega) ⟨by omega, by omega⟩ ⟨by omega, by omega⟩ z0; rw [show (q_30 : Int32).toInt = si.toInt from by omega] at z2; unfold zJac; have k9 : ((-6) : Int32).toInt = -6 := (by decide); refine Or.inr (Or.inr (Or.inr ⟨by omega, by omega, _, _, _, _, z2, Or.inl ⟨by omega, by omega, by omega, by omega, by omega⟩⟩)))), (show (1 ≤ ((-6) : Int32).toInt → ∀ j : Nat, j < 40 → fl j = zRl (zDI (fun j : Nat => (fe j).toInt32) si.toInt sz.toInt cn.toInt) fl ((-6) : Int32).toInt.toNat j) from by (have k9 : ((-6) : Int32).toInt = -6 := (by decide); intro h; exfalso; omega)), (show (1 ≤ ((-6) : Int32).toInt → ∀ j : Nat, j < 40 → fs j = zRs (zDI (fun j : Nat => (fe j).toInt32) si.toInt sz.toInt cn.toInt) fs ((-6) : Int32).toInt.toNat j) from by (have k9 : ((-6) : Int32).toInt = -6 := (by decide); intro h; exfalso; omega)), (show (1 ≤ ((-6) : Int32).toInt → ∀ j : Nat, j < 8 → kf j = zRk (zDI (fun j : Nat => (fe j).toInt32) si.toInt sz.toInt cn.toInt) cn.toInt kf ((-6) : Int32).toInt.toNat j ∧ af j = zRa (zDI (fun j : Nat => (fe j).toInt32) si.toInt sz.toInt cn.toInt) cn.toInt af ((-6) : Int32).toInt.toNat j ∧ tf j = zRt (zDI (fun j : Nat => (fe j).toInt32) si.toInt sz.toInt cn.toInt) cn.toInt tf ((-6) : Int32).toInt.toNat j) from by (have k9 : ((-6) : Int32).toInt = -6 := (by decide); intro h; exfalso; omega)), (show (1 ≤ ((-6) : Int32).toInt → ∀ j : Nat, j < 3 → fc j = zRc (zDI (fun j : Nat => (fe j).toInt32) si.toInt sz.toInt cn.toInt) fc ((-6) : Int32).toInt.toNat j) from by (have k9 : ((-6) : Int32).toInt = -6 := (by decide); intro h; exfalso; omega)), (show (1 ≤ ((-6) : Int32).toInt → de.toInt = zRn 4 (zDI (fun j : Nat => (fe j).toInt32) si.toInt sz.toInt cn.toInt) de.toInt ((-6) : Int32).toInt.toNat ∧ se.toInt = zRn 5 (zDI (fun j : Nat => (fe j).toInt32) si.toInt sz.toInt cn.toInt) se.toInt ((-6) : Int32).toInt.toNat ∧ hu.toInt = zRn 6 (zDI (fun j : Nat => (fe j).toInt32) si.toInt sz.toInt cn.toInt) hu.toInt ((-6) : Int32).toInt.toNat ∧ gp.toInt = zRn 7 (zDI (fun j : Nat => (fe j).toInt32) si.toInt sz.toInt cn.toInt) gp.toInt ((-6) : Int32).toInt.toNat ∧ at_.toInt = zRat (zDI (fun j : Nat => (fe j).toInt32) si.toInt sz.toInt cn.toInt) at_.toInt ((-6) : Int32).toInt.toNat) from by (have k9 : ((-6) : Int32).toInt = -6 := (by decide); intro h; exfalso; omega)), (show (((-6) : Int32).toInt < 1 → fl = fl ∧ fs = fs ∧ kf = kf ∧ af = af ∧ tf = tf ∧ fc = fc ∧ de = de ∧ se = se ∧ hu = hu ∧ gp = gp ∧ at_ = at_) from by (intro _; exact ⟨rfl, rfl, rfl, rfl, rfl, rfl, rfl, rfl, rfl, rfl, rfl⟩)), trivial⟩, zRet ht hP hD [12, 13, 0, 10, 11, 7, 8, 9, 1, 2, 3, 4, 5, 6] (by decide) rfl⟩, hS.F ht⟩) hS.2.2 dX7_jacket_74
      · exact absurd c_27 (by decide)
end
