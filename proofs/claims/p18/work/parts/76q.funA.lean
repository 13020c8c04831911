set_option maxHeartbeats 4000000 in
set_option maxRecDepth 100000 in
theorem c_F_R_letters (l : Launch) (D : va_G) (cI cJ cZ cP cS : ClassId) (po : zPool) (rd ri rl : Nat) (rz rc rp rf rt ru : Int32) (fl : Nat → Int32) (i : Nat) (hy0 : 0 ≤ rz.toInt) (hy1 : rz.toInt ≤ 160) (hy2 : 0 ≤ rc.toInt) (hy3 : rc.toInt ≤ 40) (hy4 : 0 ≤ rp.toInt) (hy5 : rp.toInt ≤ 160) (hy6 : rp.toInt ≤ rz.toInt) (hy7 : (-1) ≤ rf.toInt) (hy8 : rf.toInt ≤ 160) (hy9 : 0 ≤ rt.toInt) (hy10 : rt.toInt ≤ 40) (hy11 : 0 ≤ ru.toInt) (hy12 : ru.toInt ≤ 8) (hi : i < 10) (hpz : Nat) : Met l yX3_lettersStanding wsX3_lettersStanding ({ frames := 4, cells := 0, slots := 0, locals := 85 }) (va_Pc [.ref rd, .ref (po.2.1 i)] (zW D (zKT cI cJ cZ cP cS) po [(rd, .inr (3, [.ref ri, .ref rl, .int rz, .int rc, .int rp, .int rf, .int rt, .int ru])), (rl, .inl (cI, 160, .inl fl))] hpz)) (va_Qi (fun (r : Int32) (_ : Unit) => (rp.toInt + r.toInt ≤ rz.toInt ∧ r.toInt ≤ (zLen.getD i 0 : Nat)) ∧ (r.toInt = (zLc fl rz.toInt rp.toInt (zWds i) : Nat)) ∧ (0 ≤ r.toInt ∧ r.toInt ≤ 7)) (zB D [(rd, .inr (3, [.ref ri, .ref rl, .int rz, .int rc, .int rp, .int rf, .int rt, .int ru])), (rl, .inl (cI, 160, .inl fl))] hpz (fun (_ : Unit) => [(rd, .inr (3, [.ref ri, .ref rl, .int rz, .int rc, .int rp, .int rf, .int rt, .int ru])), (rl, .inl (cI, 160, .inl fl))])) (va_A [(rd, .inr (3, [.ref ri, .ref rl, .int rz, .int rc, .int rp, .int rf, .int rt, .int ru])), (rl, .inl (cI, 160, .inl fl))] hpz)) 0 0 (va_A [(rd, .inr (3, [.ref ri, .ref rl, .int rz, .int rc, .int rp, .int rf, .int rt, .int ru])), (rl, .inl (cI, 160, .inl fl))] hpz) := by
  refine Met.ofW (cc := cX3_lettersStanding) (maxL := 3) (ret := (some .int)) (by decide) rfl ?_
  intro p e s m args below meth c s₁ B hml hv
  obtain ⟨rfl, hsz, hP, hK, hD0, hN, hZ⟩ := hv
  have hx := B.exec
  have hb := B.bytes
  have hr := B.returns
  have hts := atoms_spec (ws := wsX3_lettersStanding) B.pre
  have hown : s.vm.findClass RX3 = some m.cls := findClass_of_methodNamed B.named
  have hlocks := B.notSynchronized
  subst hsz
  have hD := hD0.self (sz := s.heap.size)
  have hA := zA_of hD
  have hl := lv_entry ([.ref rd, .ref (po.2.1 i)]) (n := 3) (Nat.le_of_ble_eq_true rfl)
  rw [lg_entry_eq]
  generalize (lg_sl ([.ref rd, .ref (po.2.1 i)]) ++ List.replicate (3 - (lg_sl ([.ref rd, .ref (po.2.1 i)])).length) Slot.unset).toArray = ls at hl ⊢
  replace hl : lv_has ls 3 [(0, .ref rd), (1, .ref (po.2.1 i))] := hl
  refine zw_begin hP hD (fun H locs hP1 hS => ?_)
  clear hP
  have hP := hP1
  clear hP1
  refine lv_iconst (v := 0) hx hb dX3_lettersStanding_0 (by decide) ?_
  refine lv_istore_n (lv' := [(2, .int 0), (0, .ref rd), (1, .ref (po.2.1 i))]) hx hb dX3_lettersStanding_1 rfl hl (by decide) rfl (fun ls hl => ?_)
  obtain ⟨i_2, hi_2⟩ : ∃ i : Int32, i = 0 := ⟨_, rfl⟩
  replace hl : lv_has ls 3 [(2, .int i_2), (0, .ref rd), (1, .ref (po.2.1 i))] := by rw [hi_2]; exact lv_sub hl [0, 1, 2] rfl
  have h1i_2 : i_2.toInt = 0 := by rw [hi_2]; decide
  obtain ⟨nfu, hni_2⟩ : ∃ nq9 : Nat, 8 ≤ i_2.toInt + (nq9 : Int) := ⟨((8 : Int) - 0).toNat, by omega⟩
  have hloi_2 : 0 ≤ i_2.toInt := by omega
  have hvi_2_0 : rp.toInt + i_2.toInt ≤ rz.toInt ∧ i_2.toInt ≤ (zLen.getD i 0 : Nat) := by
    (try rw [hi_2]); (first | omega | (refine ⟨?_, ?_⟩ <;> simp <;> omega))
  have hvi_2_1 : (∀ j : Nat, j < i_2.toInt.toNat → rp.toInt + (j : Int) < rz.toInt ∧ fl (rp.toInt + (j : Int)).toNat = (zWds i).getD j 0) := by
    (try rw [hi_2]); (intro j hj; exfalso; have h8 : ((0 : Int32).toInt.toNat = 0) := (by decide); omega)
  clear h1i_2 hi_2
  skip
  revert hni_2
  revert hloi_2
  revert hvi_2_1
  revert hvi_2_0
  revert hl
  revert hS
  revert hD
  revert hP
  revert ls
  revert locs
  revert H
  revert i_2
  induction nfu with
  | zero =>
    intro i_2 H locs ls hP hD hS hl hvi_2_0 hvi_2_1 hloi_2 hni_2
    have hzi_2 : 8 ≤ i_2.toInt := by omega
    refine lv_iload_n hx hb dX3_lettersStanding_2 rfl (lv_at hl 0 rfl) ?_
    refine lv_aload_n hx hb dX3_lettersStanding_3 rfl (lv_at hl 2 rfl) ?_
    refine zc_V (As := []) (rest := [.int i_2]) ⟨hx, hb, hml, hown, hts⟩ (c_S_length l D cI cJ cZ cP cS po i hi) (cwV 0 hts gX3_lettersStanding_J0_length_8abf5 rfl rfl rfl ⟨rfl, dh_J0_length_8abf5⟩ ⟨Nat.le_of_ble_eq_true rfl, Nat.le_of_ble_eq_true rfl⟩) hK hN (hZ.kept hS) hP zP_nil (vk_recv hZ.2.2.1 hi hS) rfl hl.1 rfl (Nat.le_of_ble_eq_true rfl) dX3_lettersStanding_4 ⟨Nat.le_of_ble_eq_true rfl, Nat.le_of_ble_eq_true rfl⟩ (fun r_1 hr_1 => ?_)
    obtain ⟨g_2, g_3, hsr_1_0⟩ := hr_1
    refine lv_icmp_ge (tgt := 34) hx hb dX3_lettersStanding_7 (by decide) (fun c_4 => ?_) (fun c_4 => ?_)
    · have fc_4 : r_1.toInt ≤ i_2.toInt := zf_le c_4 rfl rfl
      refine lv_iload_n hx hb dX3_lettersStanding_34 rfl (lv_at hl 0 rfl) ?_
      exact W.iret (v := i_2) hx hb hr (fun t ht hW => ⟨⟨i_2, (), rfl, ⟨(show rp.toInt + (i_2 : Int32).toInt ≤ rz.toInt ∧ (i_2 : Int32).toInt ≤ (zLen.getD i 0 : Nat) from by exact ⟨by omega, by omega⟩), (show (i_2 : Int32).toInt = (zLc fl rz.toInt rp.toInt (zWds i) : Nat) from by exact zLt_end hi (by omega) (by omega) hvi_2_1 (Or.inl (by omega))), ⟨by omega, by omega⟩⟩, zRet ht hP hD [0, 1] (by decide) rfl⟩, hS.F ht⟩) hS.2.2 dX3_lettersStanding_35
    · exfalso; have fc_4 : i_2.toInt < r_1.toInt := zf_nle c_4 rfl rfl; omega
  | succ nfu ih =>
    intro i_2 H locs ls hP hD hS hl hvi_2_0 hvi_2_1 hloi_2 hni_2
    refine lv_iload_n hx hb dX3_lettersStanding_2 rfl (lv_at hl 0 rfl) ?_
    refine lv_aload_n hx hb dX3_lettersStanding_3 rfl (lv_at hl 2 rfl) ?_
    refine zc_V (As := []) (rest := [.int i_2]) ⟨hx, hb, hml, hown, hts⟩ (c_S_length l D cI cJ cZ cP cS po i hi) (cwV 0 hts gX3_lettersStanding_J0_length_8abf5 rfl rfl rfl ⟨rfl, dh_J0_length_8abf5⟩ ⟨Nat.le_of_ble_eq_true rfl, Nat.le_of_ble_eq_true rfl⟩) hK hN (hZ.kept hS) hP zP_nil (vk_recv hZ.2.2.1 hi hS) rfl hl.1 rfl (Nat.le_of_ble_eq_true rfl) dX3_lettersStanding_4 ⟨Nat.le_of_ble_eq_true rfl, Nat.le_of_ble_eq_true rfl⟩ (fun r_5 hr_5 => ?_)
    obtain ⟨g_6, g_7, hsr_5_0⟩ := hr_5
    refine lv_icmp_ge (tgt := 34) hx hb dX3_lettersStanding_7 (by decide) (fun c_8 => ?_) (fun c_8 => ?_)
    · have fc_8 : r_5.toInt ≤ i_2.toInt := zf_le c_8 rfl rfl
      refine lv_iload_n hx hb dX3_lettersStanding_34 rfl (lv_at hl 0 rfl) ?_
      exact W.iret (v := i_2) hx hb hr (fun t ht hW => ⟨⟨i_2, (), rfl, ⟨(show rp.toInt + (i_2 : Int32).toInt ≤ rz.toInt ∧ (i_2 : Int32).toInt ≤ (zLen.getD i 0 : Nat) from by exact ⟨by omega, by omega⟩), (show (i_2 : Int32).toInt = (zLc fl rz.toInt rp.toInt (zWds i) : Nat) from by exact zLt_end hi (by omega) (by omega) hvi_2_1 (Or.inl (by omega))), ⟨by omega, by omega⟩⟩, zRet ht hP hD [0, 1] (by decide) rfl⟩, hS.F ht⟩) hS.2.2 dX3_lettersStanding_35
    · have fc_8 : i_2.toInt < r_5.toInt := zf_nle c_8 rfl rfl
      refine lv_aload_n hx hb dX3_lettersStanding_10 rfl (lv_at hl 1 rfl) ?_
      refine lv_aload_n hx hb dX3_lettersStanding_11 rfl (lv_at hl 1 rfl) ?_
      refine va_get (D := D) (ci := 3) (v := .int rp) (C := RX3) (T := TX3) (N := 8) hx hb hts hi_X3_lettersStanding_3 hown hK hP 0 rfl rfl 4 (by decide) (hts (.fieldLink RX3 25 "TheLiningsInIt$Reader" "place" "I") (List.mem_of_getElem? (i := 1) rfl)) (fun _ h9 => h9) rfl dX3_lettersStanding_12 ?_
      refine lv_iload_n hx hb dX3_lettersStanding_15 rfl (lv_at hl 0 rfl) ?_
      refine lv_iadd hx hb dX3_lettersStanding_16 ?_
      refine lv_topi (fun x_9 ex_9 => ?_)
      have qx_9 : x_9.toInt = rp.toInt + i_2.toInt := by rw [ex_9]; exact zf_add rfl rfl (by omega) (by omega)
      refine lv_aload_n hx hb dX3_lettersStanding_17 rfl (lv_at hl 2 rfl) ?_
      refine lv_iload_n hx hb dX3_lettersStanding_18 rfl (lv_at hl 0 rfl) ?_
      skip
      refine zw_V (As := [.int i_2]) (rest := [.int x_9, .ref rd]) (wr := [(rd, .inr (3, [.ref ri, .ref rl, .int rz, .int rc, .int rp, .int rf, .int rt, .int ru])), (rl, .inl (cI, 160, .inl fl))]) ⟨hx, hb, hml, hown, hts⟩ (c_S_charAt l D cI cJ cZ cP cS po i (i_2) hi (by first | assumption | omega) H.size) (cwV 1 hts gX3_lettersStanding_J0_charAt_5068e rfl rfl rfl ⟨rfl, dh_J0_charAt_5068e⟩ ⟨Nat.le_of_ble_eq_true rfl, Nat.le_of_ble_eq_true rfl⟩) hK hN (hZ.kept hS) hP hD hS hA [] [0, 1] rfl rfl (by decide) (by decide) (by decide) (vk_recv hZ.2.2.1 hi hS) rfl hl.1 rfl (Nat.le_of_ble_eq_true rfl) dX3_lettersStanding_19 ⟨Nat.le_of_ble_eq_true rfl, Nat.le_of_ble_eq_true rfl⟩ (fun r_10 u_11 H locs hr_10 hP hD hS => ?_)
      obtain ⟨hsr_10_0, hr_10⟩ := hr_10
      have h9R := zRe (ws' := [(rd, .inr (3, [.ref ri, .ref rl, .int rz, .int rc, .int rp, .int rf, .int rt, .int ru])), (rl, .inl (cI, 160, .inl fl))]) hP hD rfl
      clear hP hD
      obtain ⟨hP, hD⟩ := h9R
      refine zc_V (As := [.int x_9, .int r_10]) (rest := []) ⟨hx, hb, hml, hown, hts⟩ (c_R_stands l D cI cJ cZ cP cS po rd ri rl (rz) (rc) (rp) (rf) (rt) (ru) fl (x_9) (r_10) hy0 hy1 hy2 hy3 hy4 hy5 (by omega) hy7 hy8 hy9 hy10 hy11 hy12) (cwV 2 hts gX3_lettersStanding_X3_stands rfl rfl rfl ⟨rfl, dh_X3_stands⟩ ⟨Nat.le_of_ble_eq_true rfl, Nat.le_of_ble_eq_true rfl⟩) hK hN (hZ.kept hS) hP (hP.sub [0, 1] rfl) (va_recv (q := (RX3, TX3, 8)) hK hP (ci := 3) (q0 := 0) rfl rfl) rfl hl.1 rfl (Nat.le_of_ble_eq_true rfl) dX3_lettersStanding_22 ⟨Nat.le_of_ble_eq_true rfl, Nat.le_of_ble_eq_true rfl⟩ (fun r_12 hr_12 => ?_)
      obtain ⟨g_13, g_14, hsr_12_0, hsr_12_1⟩ := hr_12
      refine lv_if_eq (tgt := 34) hx hb dX3_lettersStanding_25 (by decide) (fun c_15 => ?_) (fun c_15 => ?_)
      · have fc_15 : r_12.toInt = 0 := zf_eq c_15 rfl (by decide)
        refine lv_iload_n hx hb dX3_lettersStanding_34 rfl (lv_at hl 0 rfl) ?_
        exact W.iret (v := i_2) hx hb hr (fun t ht hW => ⟨⟨i_2, (), rfl, ⟨(show rp.toInt + (i_2 : Int32).toInt ≤ rz.toInt ∧ (i_2 : Int32).toInt ≤ (zLen.getD i 0 : Nat) from by exact ⟨by omega, by omega⟩), (show (i_2 : Int32).toInt = (zLc fl rz.toInt rp.toInt (zWds i) : Nat) from by exact zLt_end hi (by omega) (by omega) hvi_2_1 (Or.inr (zLt_no qx_9 hsr_10_0 hsr_12_1 (by omega) (by omega)))), ⟨by omega, by omega⟩⟩, zRet ht hP hD [0, 1] (by decide) rfl⟩, hS.F ht⟩) hS.2.2 dX3_lettersStanding_35
      · have fc_15 : r_12.toInt ≠ 0 := zf_ne c_15 rfl (by decide)
        obtain ⟨x_16, ex_16⟩ : ∃ y : Int32, y = i_2 + 1 := ⟨_, rfl⟩
        have qx_16 : x_16.toInt = i_2.toInt + 1 := dw_inc ex_16 fc_8
        refine lv_iinc (v := x_16) (lv' := [(2, .int x_16), (0, .ref rd), (1, .ref (po.2.1 i))]) hx hb dX3_lettersStanding_28 hl (k := 0) rfl ex_16.symm (by decide) rfl (fun ls hl => ?_)
        refine lv_goto (tgt := 2) hx hb dX3_lettersStanding_31 (by decide) ?_
        exact ih x_16 _ _ _ (hP.sub [0, 1] rfl) (hD.sub [0, 1] (by decide) rfl) hS (lv_sub hl [0, 1, 2] rfl) (show rp.toInt + x_16.toInt ≤ rz.toInt ∧ x_16.toInt ≤ (zLen.getD i 0 : Nat) from by exact ⟨by omega, by omega⟩) (show (∀ j : Nat, j < x_16.toInt.toNat → rp.toInt + (j : Int) < rz.toInt ∧ fl (rp.toInt + (j : Int)).toNat = (zWds i).getD j 0) from by exact zLt_S hvi_2_1 qx_9 hsr_10_0 hsr_12_1 (by omega) (by omega) (by omega)) (dw_lo hloi_2 qx_16) (dw_hn hni_2 qx_16)
set_option maxHeartbeats 4000000 in
set_option maxRecDepth 100000 in
theorem c_F_R_takeWord (l : Launch) (D : va_G) (cI cJ cZ cP cS : ClassId) (po : zPool) (rd ri rl : Nat) (rz rc rp rf rt ru : Int32) (w n : Int32) (hy0 : 0 ≤ rz.toInt) (hy1 : rz.toInt ≤ 160) (hy2 : 0 ≤ rc.toInt) (hy3 : rc.toInt ≤ 40) (hy4 : 0 ≤ rp.toInt) (hy5 : rp.toInt ≤ 160) (hy6 : rp.toInt ≤ rz.toInt) (hy7 : (-1) ≤ rf.toInt) (hy8 : rf.toInt ≤ 160) (hy9 : 0 ≤ rt.toInt) (hy10 : rt.toInt ≤ 40) (hy11 : 0 ≤ ru.toInt) (hy12 : ru.toInt ≤ 8) (hy13 : 0 ≤ w.toInt) (hy14 : w.toInt ≤ 9) (hy15 : 0 ≤ n.toInt) (hy16 : n.toInt ≤ 7) (hpn : rp.toInt + n.toInt ≤ rz.toInt) (hpz : Nat) : Met l yX3_takeWord wsX3_takeWord ({ frames := 0, cells := 0, slots := 0, locals := 0 }) (va_Pc [.ref rd, .int w, .int n] (zW D (zKT cI cJ cZ cP cS) po [(rd, .inr (3, [.ref ri, .ref rl, .int rz, .int rc, .int rp, .int rf, .int rt, .int ru]))] hpz)) (va_Qi (fun (r : Int32) (u : (Int32) × (Int32)) => (0 ≤ u.1.toInt ∧ u.1.toInt ≤ 160) ∧ ((-1) ≤ u.2.toInt ∧ u.2.toInt ≤ 160) ∧ (u.1.toInt ≤ rz.toInt) ∧ (((w.toInt = 3 ∧ ru.toInt = 8 ∧ r.toInt = -1 ∧ u.2.toInt = rp.toInt) ∨ (¬ (w.toInt = 3 ∧ ru.toInt = 8) ∧ r.toInt = w.toInt ∧ u.2.toInt = rf.toInt ∧ u.1.toInt = rp.toInt + n.toInt))) ∧ (-1 ≤ r.toInt ∧ r.toInt ≤ 9)) (zB D [(rd, .inr (3, [.ref ri, .ref rl, .int rz, .int rc, .int rp, .int rf, .int rt, .int ru]))] hpz (fun (u : (Int32) × (Int32)) => [(rd, .inr (3, [.ref ri, .ref rl, .int rz, .int rc, .int u.1, .int u.2, .int rt, .int ru]))])) (va_A [(rd, .inr (3, [.ref ri, .ref rl, .int rz, .int rc, .int rp, .int rf, .int rt, .int ru]))] hpz)) 0 0 (va_A [(rd, .inr (3, [.ref ri, .ref rl, .int rz, .int rc, .int rp, .int rf, .int rt, .int ru]))] hpz) := by
  refine Met.ofW (cc := cX3_takeWord) (maxL := 3) (ret := (some .int)) (by decide) rfl ?_
  intro p e s m args below meth c s₁ B hml hv
  obtain ⟨rfl, hsz, hP, hK, hD0, hN, hZ⟩ := hv
  have hx := B.exec
  have hb := B.bytes
  have hr := B.returns
  have hts := atoms_spec (ws := wsX3_takeWord) B.pre
  have hown : s.vm.findClass RX3 = some m.cls := findClass_of_methodNamed B.named
  have hlocks := B.notSynchronized
  subst hsz
  have hD := hD0.self (sz := s.heap.size)
  have hA := zA_of hD
  have hl := lv_entry ([.ref rd, .int w, .int n]) (n := 3) (Nat.le_of_ble_eq_true rfl)
  rw [lg_entry_eq]
  generalize (lg_sl ([.ref rd, .int w, .int n]) ++ List.replicate (3 - (lg_sl ([.ref rd, .int w, .int n])).length) Slot.unset).toArray = ls at hl ⊢
  replace hl : lv_has ls 3 [(0, .ref rd), (1, .int w), (2, .int n)] := hl
  refine zw_begin hP hD (fun H locs hP1 hS => ?_)
  clear hP
  have hP := hP1
  clear hP1
  refine lv_iload_n hx hb dX3_takeWord_0 rfl (lv_at hl 1 rfl) ?_
  refine lv_iconst (v := 3) hx hb dX3_takeWord_1 (by decide) ?_
  refine lv_icmp_ne (tgt := 24) hx hb dX3_takeWord_2 (by decide) (fun c_1 => ?_) (fun c_1 => ?_)
  · have fc_1 : w.toInt ≠ 3 := zf_ne c_1 rfl (by decide)
    refine lv_aload_n hx hb dX3_takeWord_24 rfl (lv_at hl 0 rfl) ?_
    refine lv_dup hx hb dX3_takeWord_25 rfl ?_
    refine va_get (D := D) (ci := 3) (v := .int rp) (C := RX3) (T := TX3) (N := 8) hx hb hts hi_X3_takeWord_3 hown hK hP 0 rfl rfl 4 (by decide) (hts (.fieldLink RX3 25 "TheLiningsInIt$Reader" "place" "I") (List.mem_of_getElem? (i := 2) rfl)) (fun _ h9 => h9) rfl dX3_takeWord_26 ?_
    refine lv_iload_n hx hb dX3_takeWord_29 rfl (lv_at hl 2 rfl) ?_
    refine lv_iadd hx hb dX3_takeWord_30 ?_
    refine lv_topi (fun x_2 ex_2 => ?_)
    have qx_2 : x_2.toInt = rp.toInt + n.toInt := by rw [ex_2]; exact zf_add rfl rfl (by omega) (by omega)
    refine va_put (D := D) (ci := 3) (v := .int x_2) (ty := .int) (C := RX3) (T := TX3) (N := 8) hx hb hts hi_X3_takeWord_3 tyX3 tyX3_ok nmX3 hown hK hP hD hS 0 rfl rfl 4 (by decide) (hts (.fieldLink RX3 25 "TheLiningsInIt$Reader" "place" "I") (List.mem_of_getElem? (i := 2) rfl)) (fun _ h9 => h9) rfl (tyX3_ok 4 (Nat.le_of_ble_eq_true rfl)) rfl rfl (Nat.le_of_ble_eq_true rfl) dX3_takeWord_31 (fun H locs hP hD hS => ?_)
    have h9R := zRe (ws' := [(rd, .inr (3, [.ref ri, .ref rl, .int rz, .int rc, .int x_2, .int rf, .int rt, .int ru]))]) hP hD rfl
    clear hP hD
    obtain ⟨hP, hD⟩ := h9R
    refine lv_iload_n hx hb dX3_takeWord_34 rfl (lv_at hl 1 rfl) ?_
    exact W.iret (v := w) hx hb hr (fun t ht hW => ⟨⟨w, (x_2, rf), rfl, ⟨(show 0 ≤ x_2.toInt ∧ x_2.toInt ≤ 160 from ⟨by omega, by omega⟩), (show (-1) ≤ rf.toInt ∧ rf.toInt ≤ 160 from ⟨hy7, hy8⟩), (show x_2.toInt ≤ rz.toInt from by omega), (show ((w.toInt = 3 ∧ ru.toInt = 8 ∧ (w : Int32).toInt = -1 ∧ rf.toInt = rp.toInt) ∨ (¬ (w.toInt = 3 ∧ ru.toInt = 8) ∧ (w : Int32).toInt = w.toInt ∧ rf.toInt = rf.toInt ∧ x_2.toInt = rp.toInt + n.toInt)) from by (omega)), ⟨by omega, by omega⟩⟩, zRet ht hP hD [0] (by decide) rfl⟩, hS.F ht⟩) hS.2.2 dX3_takeWord_35
  · have fc_1 : w.toInt = 3 := zf_eq c_1 rfl (by decide)
    refine lv_aload_n hx hb dX3_takeWord_5 rfl (lv_at hl 0 rfl) ?_
    refine va_get (D := D) (ci := 3) (v := .int ru) (C := RX3) (T := TX3) (N := 8) hx hb hts hi_X3_takeWord_3 hown hK hP 0 rfl rfl 7 (by decide) (hts (.fieldLink RX3 34 "TheLiningsInIt$Reader" "pulls" "I") (List.mem_of_getElem? (i := 1) rfl)) (fun _ h9 => h9) rfl dX3_takeWord_6 ?_
    refine lv_bipush (v := 8) hx hb dX3_takeWord_9 (by decide) ?_
    refine lv_icmp_lt (tgt := 24) hx hb dX3_takeWord_11 (by decide) (fun c_3 => ?_) (fun c_3 => ?_)
    · have fc_3 : ru.toInt < 8 := zf_lt c_3 rfl (by decide)
      refine lv_aload_n hx hb dX3_takeWord_24 rfl (lv_at hl 0 rfl) ?_
      refine lv_dup hx hb dX3_takeWord_25 rfl ?_
      refine va_get (D := D) (ci := 3) (v := .int rp) (C := RX3) (T := TX3) (N := 8) hx hb hts hi_X3_takeWord_3 hown hK hP 0 rfl rfl 4 (by decide) (hts (.fieldLink RX3 25 "TheLiningsInIt$Reader" "place" "I") (List.mem_of_getElem? (i := 2) rfl)) (fun _ h9 => h9) rfl dX3_takeWord_26 ?_
      refine lv_iload_n hx hb dX3_takeWord_29 rfl (lv_at hl 2 rfl) ?_
      refine lv_iadd hx hb dX3_takeWord_30 ?_
      refine lv_topi (fun x_4 ex_4 => ?_)
      have qx_4 : x_4.toInt = rp.toInt + n.toInt := by rw [ex_4]; exact zf_add rfl rfl (by omega) (by omega)
      refine va_put (D := D) (ci := 3) (v := .int x_4) (ty := .int) (C := RX3) (T := TX3) (N := 8) hx hb hts hi_X3_takeWord_3 tyX3 tyX3_ok nmX3 hown hK hP hD hS 0 rfl rfl 4 (by decide) (hts (.fieldLink RX3 25 "TheLiningsInIt$Reader" "place" "I") (List.mem_of_getElem? (i := 2) rfl)) (fun _ h9 => h9) rfl (tyX3_ok 4 (Nat.le_of_ble_eq_true rfl)) rfl rfl (Nat.le_of_ble_eq_true rfl) dX3_takeWord_31 (fun H locs hP hD hS => ?_)
      have h9R := zRe (ws' := [(rd, .inr (3, [.ref ri, .ref rl, .int rz, .int rc, .int x_4, .int rf, .int rt, .int ru]))]) hP hD rfl
      clear hP hD
      obtain ⟨hP, hD⟩ := h9R
      refine lv_iload_n hx hb dX3_takeWord_34 rfl (lv_at hl 1 rfl) ?_
      exact W.iret (v := w) hx hb hr (fun t ht hW => ⟨⟨w, (x_4, rf), rfl, ⟨(show 0 ≤ x_4.toInt ∧ x_4.toInt ≤ 160 from ⟨by omega, by omega⟩), (show (-1) ≤ rf.toInt ∧ rf.toInt ≤ 160 from ⟨hy7, hy8⟩), (show x_4.toInt ≤ rz.toInt from by omega), (show ((w.toInt = 3 ∧ ru.toInt = 8 ∧ (w : Int32).toInt = -1 ∧ rf.toInt = rp.toInt) ∨ (¬ (w.toInt = 3 ∧ ru.toInt = 8) ∧ (w : Int32).toInt = w.toInt ∧ rf.toInt = rf.toInt ∧ x_4.toInt = rp.toInt + n.toInt)) from by (omega)), ⟨by omega, by omega⟩⟩, zRet ht hP hD [0] (by decide) rfl⟩, hS.F ht⟩) hS.2.2 dX3_takeWord_35
    · have fc_3 : 8 ≤ ru.toInt := zf_nlt c_3 rfl (by decide)
      refine lv_aload_n hx hb dX3_takeWord_14 rfl (lv_at hl 0 rfl) ?_
      refine lv_aload_n hx hb dX3_takeWord_15 rfl (lv_at hl 0 rfl) ?_
      refine va_get (D := D) (ci := 3) (v := .int rp) (C := RX3) (T := TX3) (N := 8) hx hb hts hi_X3_takeWord_3 hown hK hP 0 rfl rfl 4 (by decide) (hts (.fieldLink RX3 25 "TheLiningsInIt$Reader" "place" "I") (List.mem_of_getElem? (i := 2) rfl)) (fun _ h9 => h9) rfl dX3_takeWord_16 ?_
      refine va_put (D := D) (ci := 3) (v := .int rp) (ty := .int) (C := RX3) (T := TX3) (N := 8) hx hb hts hi_X3_takeWord_3 tyX3 tyX3_ok nmX3 hown hK hP hD hS 0 rfl rfl 5 (by decide) (hts (.fieldLink RX3 28 "TheLiningsInIt$Reader" "fault" "I") (List.mem_of_getElem? (i := 3) rfl)) (fun _ h9 => h9) rfl (tyX3_ok 5 (Nat.le_of_ble_eq_true rfl)) rfl rfl (Nat.le_of_ble_eq_true rfl) dX3_takeWord_19 (fun H locs hP hD hS => ?_)
      have h9R := zRe (ws' := [(rd, .inr (3, [.ref ri, .ref rl, .int rz, .int rc, .int rp, .int rp, .int rt, .int ru]))]) hP hD rfl
      clear hP hD
      obtain ⟨hP, hD⟩ := h9R
      refine lv_iconst (v := (-1)) hx hb dX3_takeWord_22 (by decide) ?_
      exact W.iret (v := (-1)) hx hb hr (fun t ht hW => ⟨⟨(-1), (rp, rp), rfl, ⟨(show 0 ≤ rp.toInt ∧ rp.toInt ≤ 160 from ⟨hy4, hy5⟩), (show (-1) ≤ rp.toInt ∧ rp.toInt ≤ 160 from ⟨by omega, hy5⟩), (show rp.toInt ≤ rz.toInt from by omega), (show ((w.toInt = 3 ∧ ru.toInt = 8 ∧ ((-1) : Int32).toInt = -1 ∧ rp.toInt = rp.toInt) ∨ (¬ (w.toInt = 3 ∧ ru.toInt = 8) ∧ ((-1) : Int32).toInt = w.toInt ∧ rp.toInt = rf.toInt ∧ rp.toInt = rp.toInt + n.toInt)) from by (have k9 : ((-1) : Int32).toInt = -1 := (by decide); omega)), ⟨by decide, by decide⟩⟩, zRet ht hP hD [0] (by decide) rfl⟩, hS.F ht⟩) hS.2.2 dX3_takeWord_23
set_option maxHeartbeats 4000000 in
set_option maxRecDepth 100000 in
theorem c_F_R_readWord (l : Launch) (D : va_G) (cI cJ cZ cP cS : ClassId) (po : zPool) (rd ri rl : Nat) (rz rc rp rf rt ru : Int32) (fl : Nat → Int32) (hy0 : 0 ≤ rz.toInt) (hy1 : rz.toInt ≤ 160) (hy2 : 0 ≤ rc.toInt) (hy3 : rc.toInt ≤ 40) (hy4 : 0 ≤ rp.toInt) (hy5 : rp.toInt ≤ 160) (hy6 : rp.toInt ≤ rz.toInt) (hy7 : (-1) ≤ rf.toInt) (hy8 : rf.toInt ≤ 160) (hy9 : 0 ≤ rt.toInt) (hy10 : rt.toInt ≤ 40) (hy11 : 0 ≤ ru.toInt) (hy12 : ru.toInt ≤ 8) (hpz : Nat) : Met l yX3_readWord wsX3_readWord ({ frames := 5, cells := 0, slots := 0, locals := 107 }) (va_Pc [.ref rd] (zW D (zKT cI cJ cZ cP cS) po [(rd, .inr (3, [.ref ri, .ref rl, .int rz, .int rc, .int rp, .int rf, .int rt, .int ru])), (rl, .inl (cI, 160, .inl fl))] hpz)) (va_Qi (fun (r : Int32) (u : (Int32) × (Int32)) => (0 ≤ u.1.toInt ∧ u.1.toInt ≤ 160) ∧ ((-1) ≤ u.2.toInt ∧ u.2.toInt ≤ 160) ∧ (u.1.toInt ≤ rz.toInt) ∧ (((zFst fl rz.toInt rp.toInt zWds 10 = -1 ∧ r.toInt = -1 ∧ u.2.toInt = rp.toInt + (zMx fl rz.toInt rp.toInt zWds 10 : Nat)) ∨ (zFst fl rz.toInt rp.toInt zWds 10 = 3 ∧ ru.toInt = 8 ∧ r.toInt = -1 ∧ u.2.toInt = rp.toInt) ∨ (zFst fl rz.toInt rp.toInt zWds 10 = r.toInt ∧ 0 ≤ r.toInt ∧ ¬ (r.toInt = 3 ∧ ru.toInt = 8) ∧ u.2.toInt = rf.toInt ∧ u.1.toInt = rp.toInt + ((zWds r.toInt.toNat).length : Nat)))) ∧ (-1 ≤ r.toInt ∧ r.toInt ≤ 9)) (zB D [(rd, .inr (3, [.ref ri, .ref rl, .int rz, .int rc, .int rp, .int rf, .int rt, .int ru])), (rl, .inl (cI, 160, .inl fl))] hpz (fun (u : (Int32) × (Int32)) => [(rd, .inr (3, [.ref ri, .ref rl, .int rz, .int rc, .int u.1, .int u.2, .int rt, .int ru])), (rl, .inl (cI, 160, .inl fl))])) (va_A [(rd, .inr (3, [.ref ri, .ref rl, .int rz, .int rc, .int rp, .int rf, .int rt, .int ru])), (rl, .inl (cI, 160, .inl fl))] hpz)) 0 0 (va_A [(rd, .inr (3, [.ref ri, .ref rl, .int rz, .int rc, .int rp, .int rf, .int rt, .int ru])), (rl, .inl (cI, 160, .inl fl))] hpz) := by
  refine Met.ofW (cc := cX3_readWord) (maxL := 5) (ret := (some .int)) (by decide) rfl ?_
  intro p e s m args below meth c s₁ B hml hv
  obtain ⟨rfl, hsz, hP, hK, hD0, hN, hZ⟩ := hv
  have hx := B.exec
  have hb := B.bytes
  have hr := B.returns
  have hts := atoms_spec (ws := wsX3_readWord) B.pre
  have hown : s.vm.findClass RX3 = some m.cls := findClass_of_methodNamed B.named
  have hlocks := B.notSynchronized
  subst hsz
  have hD := hD0.self (sz := s.heap.size)
  have hA := zA_of hD
  have hl := lv_entry ([.ref rd]) (n := 5) (Nat.le_of_ble_eq_true rfl)
  rw [lg_entry_eq]
  generalize (lg_sl ([.ref rd]) ++ List.replicate (5 - (lg_sl ([.ref rd])).length) Slot.unset).toArray = ls at hl ⊢
  replace hl : lv_has ls 5 [(0, .ref rd)] := hl
  refine zw_begin hP hD (fun H locs hP1 hS => ?_)
  clear hP
  have hP := hP1
  clear hP1
  refine lv_iconst (v := 0) hx hb dX3_readWord_0 (by decide) ?_
  refine lv_istore_n (lv' := [(1, .int 0), (0, .ref rd)]) hx hb dX3_readWord_1 rfl hl (by decide) rfl (fun ls hl => ?_)
  refine lv_iconst (v := 0) hx hb dX3_readWord_2 (by decide) ?_
  refine lv_istore_n (lv' := [(2, .int 0), (1, .int 0), (0, .ref rd)]) hx hb dX3_readWord_3 rfl hl (by decide) rfl (fun ls hl => ?_)
  obtain ⟨i_4, hi_4⟩ : ∃ i : Int32, i = 0 := ⟨_, rfl⟩
  replace hl : lv_has ls 5 [(2, .int i_4), (1, .int 0), (0, .ref rd)] := by rw [hi_4]; exact lv_sub hl [0, 1, 2] rfl
  have h1i_4 : i_4.toInt = 0 := by rw [hi_4]; decide
  obtain ⟨nfu, hni_4⟩ : ∃ nq9 : Nat, 10 ≤ i_4.toInt + (nq9 : Int) := ⟨((10 : Int) - 0).toNat, by omega⟩
  have hloi_4 : 0 ≤ i_4.toInt := by omega
  obtain ⟨v_1, hv_1⟩ : ∃ g : Int32, g = 0 := ⟨_, rfl⟩
  replace hl : lv_has ls 5 [(2, .int i_4), (1, .int v_1), (0, .ref rd)] := by rw [hv_1]; exact hl
  have hbv_1 : 0 ≤ v_1.toInt ∧ v_1.toInt ≤ 7 := by rw [hv_1]; exact ⟨by decide, by decide⟩
  have hvi_4_0 : rp.toInt + (v_1 : Int32).toInt ≤ rz.toInt := by
    (try rw [hi_4]); (try rw [hv_1]); have k0 : (0 : Int32).toInt = 0 := (by decide); omega
  have hvi_4_1 : zFst fl rz.toInt rp.toInt zWds i_4.toInt.toNat = -1 := by
    (try rw [hi_4]); (try rw [hv_1]); (rw [show ((0 : Int32).toInt.toNat) = 0 from by decide]; rfl)
  have hvi_4_2 : (v_1 : Int32).toInt = (zMx fl rz.toInt rp.toInt zWds i_4.toInt.toNat : Nat) := by
    (try rw [hi_4]); (try rw [hv_1]); (rw [show ((0 : Int32).toInt.toNat) = 0 from by decide]; show _ = ((0 : Nat) : Int); decide)
  have hvi_4_3 : i_4.toInt ≤ 10 := by
    (try rw [hi_4]); (try rw [hv_1]); first | omega | decide
  clear h1i_4 hi_4 hv_1
  skip
  revert hni_4
  revert hloi_4
  revert hvi_4_3
  revert hvi_4_2
  revert hvi_4_1
  revert hvi_4_0
  revert hbv_1
  revert hl
  revert hS
  revert hD
  revert hP
  revert ls
  revert locs
  revert H
  revert v_1
  revert i_4
  induction nfu with
  | zero =>
    intro i_4 v_1 H locs ls hP hD hS hl hbv_1 hvi_4_0 hvi_4_1 hvi_4_2 hvi_4_3 hloi_4 hni_4
    have hzi_4 : 10 ≤ i_4.toInt := by omega
    refine lv_iload_n hx hb dX3_readWord_4 rfl (lv_at hl 0 rfl) ?_
    refine lv_bipush (v := 10) hx hb dX3_readWord_5 (by decide) ?_
    refine lv_icmp_ge (tgt := 52) hx hb dX3_readWord_7 (by decide) (fun c_2 => ?_) (fun c_2 => ?_)
    · have fc_2 : 10 ≤ i_4.toInt := zf_le c_2 (by decide) rfl
      refine lv_aload_n hx hb dX3_readWord_52 rfl (lv_at hl 2 rfl) ?_
      refine lv_aload_n hx hb dX3_readWord_53 rfl (lv_at hl 2 rfl) ?_
      refine va_get (D := D) (ci := 3) (v := .int rp) (C := RX3) (T := TX3) (N := 8) hx hb hts hi_X3_readWord_3 hown hK hP 0 rfl rfl 4 (by decide) (hts (.fieldLink RX3 25 "TheLiningsInIt$Reader" "place" "I") (List.mem_of_getElem? (i := 5) rfl)) (fun _ h9 => h9) rfl dX3_readWord_54 ?_
      refine lv_iload_n hx hb dX3_readWord_57 rfl (lv_at hl 1 rfl) ?_
      refine lv_iadd hx hb dX3_readWord_58 ?_
      refine lv_topi (fun x_3 ex_3 => ?_)
      have qx_3 : x_3.toInt = rp.toInt + v_1.toInt := by rw [ex_3]; exact zf_add rfl rfl (by omega) (by omega)
      refine va_put (D := D) (ci := 3) (v := .int x_3) (ty := .int) (C := RX3) (T := TX3) (N := 8) hx hb hts hi_X3_readWord_3 tyX3 tyX3_ok nmX3 hown hK hP hD hS 0 rfl rfl 5 (by decide) (hts (.fieldLink RX3 28 "TheLiningsInIt$Reader" "fault" "I") (List.mem_of_getElem? (i := 6) rfl)) (fun _ h9 => h9) rfl (tyX3_ok 5 (Nat.le_of_ble_eq_true rfl)) rfl rfl (Nat.le_of_ble_eq_true rfl) dX3_readWord_59 (fun H locs hP hD hS => ?_)
      have h9R := zRe (ws' := [(rd, .inr (3, [.ref ri, .ref rl, .int rz, .int rc, .int rp, .int x_3, .int rt, .int ru])), (rl, .inl (cI, 160, .inl fl))]) hP hD rfl
      clear hP hD
      obtain ⟨hP, hD⟩ := h9R
      refine lv_iconst (v := (-1)) hx hb dX3_readWord_62 (by decide) ?_
      exact W.iret (v := (-1)) hx hb hr (fun t ht hW => ⟨⟨(-1), (rp, x_3), rfl, ⟨(show 0 ≤ rp.toInt ∧ rp.toInt ≤ 160 from ⟨hy4, hy5⟩), (show (-1) ≤ x_3.toInt ∧ x_3.toInt ≤ 160 from ⟨by omega, by omega⟩), (show rp.toInt ≤ rz.toInt from by omega), (show ((zFst fl rz.toInt rp.toInt zWds 10 = -1 ∧ ((-1) : Int32).toInt = -1 ∧ x_3.toInt = rp.toInt + (zMx fl rz.toInt rp.toInt zWds 10 : Nat)) ∨ (zFst fl rz.toInt rp.toInt zWds 10 = 3 ∧ ru.toInt = 8 ∧ ((-1) : Int32).toInt = -1 ∧ x_3.toInt = rp.toInt) ∨ (zFst fl rz.toInt rp.toInt zWds 10 = ((-1) : Int32).toInt ∧ 0 ≤ ((-1) : Int32).toInt ∧ ¬ (((-1) : Int32).toInt = 3 ∧ ru.toInt = 8) ∧ x_3.toInt = rf.toInt ∧ rp.toInt = rp.toInt + ((zWds ((-1) : Int32).toInt.toNat).length : Nat))) from by (have h10 : i_4.toInt.toNat = 10 := (by omega); have z1 := hvi_4_1; have z2 := hvi_4_2; rw [h10] at z1 z2; exact Or.inl ⟨z1, by decide, by omega⟩)), ⟨by decide, by decide⟩⟩, zRet ht hP hD [0, 1] (by decide) rfl⟩, hS.F ht⟩) hS.2.2 dX3_readWord_63
    · exfalso; have fc_2 : i_4.toInt < 10 := zf_nle c_2 (by decide) rfl; omega
  | succ nfu ih =>
    intro i_4 v_1 H locs ls hP hD hS hl hbv_1 hvi_4_0 hvi_4_1 hvi_4_2 hvi_4_3 hloi_4 hni_4
    refine lv_iload_n hx hb dX3_readWord_4 rfl (lv_at hl 0 rfl) ?_
    refine lv_bipush (v := 10) hx hb dX3_readWord_5 (by decide) ?_
    refine lv_icmp_ge (tgt := 52) hx hb dX3_readWord_7 (by decide) (fun c_4 => ?_) (fun c_4 => ?_)
    · have fc_4 : 10 ≤ i_4.toInt := zf_le c_4 (by decide) rfl
      refine lv_aload_n hx hb dX3_readWord_52 rfl (lv_at hl 2 rfl) ?_
      refine lv_aload_n hx hb dX3_readWord_53 rfl (lv_at hl 2 rfl) ?_
      refine va_get (D := D) (ci := 3) (v := .int rp) (C := RX3) (T := TX3) (N := 8) hx hb hts hi_X3_readWord_3 hown hK hP 0 rfl rfl 4 (by decide) (hts (.fieldLink RX3 25 "TheLiningsInIt$Reader" "place" "I") (List.mem_of_getElem? (i := 5) rfl)) (fun _ h9 => h9) rfl dX3_readWord_54 ?_
      refine lv_iload_n hx hb dX3_readWord_57 rfl (lv_at hl 1 rfl) ?_
      refine lv_iadd hx hb dX3_readWord_58 ?_
      refine lv_topi (fun x_5 ex_5 => ?_)
      have qx_5 : x_5.toInt = rp.toInt + v_1.toInt := by rw [ex_5]; exact zf_add rfl rfl (by omega) (by omega)
      refine va_put (D := D) (ci := 3) (v := .int x_5) (ty := .int) (C := RX3) (T := TX3) (N := 8) hx hb hts hi_X3_readWord_3 tyX3 tyX3_ok nmX3 hown hK hP hD hS 0 rfl rfl 5 (by decide) (hts (.fieldLink RX3 28 "TheLiningsInIt$Reader" "fault" "I") (List.mem_of_getElem? (i := 6) rfl)) (fun _ h9 => h9) rfl (tyX3_ok 5 (Nat.le_of_ble_eq_true rfl)) rfl rfl (Nat.le_of_ble_eq_true rfl) dX3_readWord_59 (fun H locs hP hD hS => ?_)
      have h9R := zRe (ws' := [(rd, .inr (3, [.ref ri, .ref rl, .int rz, .int rc, .int rp, .int x_5, .int rt, .int ru])), (rl, .inl (cI, 160, .inl fl))]) hP hD rfl
      clear hP hD
      obtain ⟨hP, hD⟩ := h9R
      refine lv_iconst (v := (-1)) hx hb dX3_readWord_62 (by decide) ?_
      exact W.iret (v := (-1)) hx hb hr (fun t ht hW => ⟨⟨(-1), (rp, x_5), rfl, ⟨(show 0 ≤ rp.toInt ∧ rp.toInt ≤ 160 from ⟨hy4, hy5⟩), (show (-1) ≤ x_5.toInt ∧ x_5.toInt ≤ 160 from ⟨by omega, by omega⟩), (show rp.toInt ≤ rz.toInt from by omega), (show ((zFst fl rz.toInt rp.toInt zWds 10 = -1 ∧ ((-1) : Int32).toInt = -1 ∧ x_5.toInt = rp.toInt + (zMx fl rz.toInt rp.toInt zWds 10 : Nat)) ∨ (zFst fl rz.toInt rp.toInt zWds 10 = 3 ∧ ru.toInt = 8 ∧ ((-1) : Int32).toInt = -1 ∧ x_5.toInt = rp.toInt) ∨ (zFst fl rz.toInt rp.toInt zWds 10 = ((-1) : Int32).toInt ∧ 0 ≤ ((-1) : Int32).toInt ∧ ¬ (((-1) : Int32).toInt = 3 ∧ ru.toInt = 8) ∧ x_5.toInt = rf.toInt ∧ rp.toInt = rp.toInt + ((zWds ((-1) : Int32).toInt.toNat).length : Nat))) from by (have h10 : i_4.toInt.toNat = 10 := (by omega); have z1 := hvi_4_1; have z2 := hvi_4_2; rw [h10] at z1 z2; exact Or.inl ⟨z1, by decide, by omega⟩)), ⟨by decide, by decide⟩⟩, zRet ht hP hD [0, 1] (by decide) rfl⟩, hS.F ht⟩) hS.2.2 dX3_readWord_63
    · have fc_4 : i_4.toInt < 10 := zf_nle c_4 (by decide) rfl
      refine lv_iload_n hx hb dX3_readWord_10 rfl (lv_at hl 0 rfl) ?_
      refine zc_Sq (As := [.int i_4]) (rest := []) ⟨hx, hb, hml, hown, hts⟩ (c_R_wordAt l D cI cJ cZ cP cS po (i_4) (by omega) (by omega)) (va_cwS 1 hts gX3_readWord_X3_wordAt rfl rfl rfl dh_X3_wordAt ⟨Nat.le_of_ble_eq_true rfl, Nat.le_of_ble_eq_true rfl⟩) hK hN (hZ.kept hS) rfl hl.1 rfl (Nat.le_of_ble_eq_true rfl) dX3_readWord_11 ⟨Nat.le_of_ble_eq_true rfl, Nat.le_of_ble_eq_true rfl⟩ (fun r_6 hr_6 => ?_)
      obtain ⟨i_7, hi_7, hwi_7, rfl⟩ := hr_6
      refine W.eq (g2 := F0 m 14 ls (.ref (po.2.1 i_7) :: [])) rfl ?_
      refine lv_astore_n (lv' := [(3, .ref (po.2.1 i_7)), (2, .int i_4), (1, .int v_1), (0, .ref rd)]) hx hb dX3_readWord_14 rfl hl (by decide) rfl (fun ls hl => ?_)
      refine lv_aload_n hx hb dX3_readWord_15 rfl (lv_at hl 3 rfl) ?_
      refine lv_aload_n hx hb dX3_readWord_16 rfl (lv_at hl 0 rfl) ?_
      skip
      refine zw_V (As := [.ref (po.2.1 i_7)]) (rest := []) (wr := []) ⟨hx, hb, hml, hown, hts⟩ (c_F_R_letters l D cI cJ cZ cP cS po rd ri rl (rz) (rc) (rp) (rf) (rt) (ru) fl i_7 hy0 hy1 hy2 hy3 hy4 hy5 (by omega) hy7 hy8 hy9 hy10 hy11 hy12 hi_7 H.size) (cwV 1 hts gX3_readWord_X3_lettersStanding rfl rfl rfl ⟨rfl, dh_X3_lettersStanding⟩ ⟨Nat.le_of_ble_eq_true rfl, Nat.le_of_ble_eq_true rfl⟩) hK hN (hZ.kept hS) hP hD hS hA [0, 1] [] rfl rfl (by decide) (by decide) (by decide) (va_recv (q := (RX3, TX3, 8)) hK hP (ci := 3) (q0 := 0) rfl rfl) rfl hl.1 rfl (Nat.le_of_ble_eq_true rfl) dX3_readWord_17 ⟨Nat.le_of_ble_eq_true rfl, Nat.le_of_ble_eq_true rfl⟩ (fun r_8 u_9 H locs hr_8 hP hD hS => ?_)
      obtain ⟨hsr_8_0, hsr_8_1, hr_8⟩ := hr_8
      have h9R := zRe (ws' := [(rd, .inr (3, [.ref ri, .ref rl, .int rz, .int rc, .int rp, .int rf, .int rt, .int ru])), (rl, .inl (cI, 160, .inl fl))]) hP hD rfl
      clear hP hD
      obtain ⟨hP, hD⟩ := h9R
      obtain ⟨g_10, g_11⟩ := hr_8
      refine lv_istore (lv' := [(4, .int r_8), (3, .ref (po.2.1 i_7)), (2, .int i_4), (1, .int v_1), (0, .ref rd)]) hx hb dX3_readWord_20 hl (by decide) rfl (fun ls hl => ?_)
      refine lv_iload hx hb dX3_readWord_22 (lv_at hl 0 rfl) ?_
      refine lv_aload_n hx hb dX3_readWord_24 rfl (lv_at hl 1 rfl) ?_
      refine zc_V (As := []) (rest := [.int r_8]) ⟨hx, hb, hml, hown, hts⟩ (c_S_length l D cI cJ cZ cP cS po i_7 hi_7) (cwV 0 hts gX3_readWord_J0_length_8abf5 rfl rfl rfl ⟨rfl, dh_J0_length_8abf5⟩ ⟨Nat.le_of_ble_eq_true rfl, Nat.le_of_ble_eq_true rfl⟩) hK hN (hZ.kept hS) hP zP_nil (vk_recv hZ.2.2.1 hi_7 hS) rfl hl.1 rfl (Nat.le_of_ble_eq_true rfl) dX3_readWord_25 ⟨Nat.le_of_ble_eq_true rfl, Nat.le_of_ble_eq_true rfl⟩ (fun r_12 hr_12 => ?_)
      obtain ⟨g_13, g_14, hsr_12_0⟩ := hr_12
      refine lv_icmp_ne (tgt := 39) hx hb dX3_readWord_28 (by decide) (fun c_15 => ?_) (fun c_15 => ?_)
      · have fc_15 : r_8.toInt ≠ r_12.toInt := zf_ne c_15 rfl rfl
        refine lv_iload_n hx hb dX3_readWord_39 rfl (lv_at hl 3 rfl) ?_
        refine lv_iload hx hb dX3_readWord_40 (lv_at hl 0 rfl) ?_
        refine va_mmax hx hb (hml.trans hl.1.symm) hown (hts (.methodLink RX3 98 Lib.Math.max.name) (List.mem_of_getElem? (i := 1) rfl)) (hts _ (List.mem_of_getElem? (i := 2) rfl)) (hts _ (List.mem_of_getElem? (i := 3) rfl)) (hts _ (List.mem_of_getElem? (i := 4) rfl)) (Nat.le_of_ble_eq_true rfl) (Nat.le_of_ble_eq_true rfl) (Nat.le_of_ble_eq_true rfl) (Nat.le_of_ble_eq_true rfl) dX3_readWord_42 ?_
        refine lv_topi (fun x_16 ex_16 => ?_)
        have qx_16 := zf_max ex_16 (x1 := v_1.toInt) (y1 := r_8.toInt) rfl rfl
        refine lv_istore_n (lv' := [(1, .int x_16), (4, .int r_8), (3, .ref (po.2.1 i_7)), (2, .int i_4), (0, .ref rd)]) hx hb dX3_readWord_45 rfl hl (by decide) rfl (fun ls hl => ?_)
        obtain ⟨x_17, ex_17⟩ : ∃ y : Int32, y = i_4 + 1 := ⟨_, rfl⟩
        have qx_17 : x_17.toInt = i_4.toInt + 1 := dw_incK ex_17 fc_4 (by decide)
        refine lv_iinc (v := x_17) (lv' := [(2, .int x_17), (1, .int x_16), (4, .int r_8), (3, .ref (po.2.1 i_7)), (0, .ref rd)]) hx hb dX3_readWord_46 hl (k := 3) rfl ex_17.symm (by decide) rfl (fun ls hl => ?_)
        refine lv_goto (tgt := 4) hx hb dX3_readWord_49 (by decide) ?_
        exact ih x_17 x_16 _ _ _ (hP.sub [0, 1] rfl) (hD.sub [0, 1] (by decide) rfl) hS (lv_sub hl [0, 1, 4] rfl) ⟨by omega, by omega⟩ (show rp.toInt + (x_16 : Int32).toInt ≤ rz.toInt from by omega) (show zFst fl rz.toInt rp.toInt zWds x_17.toInt.toNat = -1 from by exact zRW_S hi_7 hwi_7 hvi_4_1 hsr_8_1 hsr_12_0 (by omega) (by omega)) (show (x_16 : Int32).toInt = (zMx fl rz.toInt rp.toInt zWds x_17.toInt.toNat : Nat) from by exact zRW_M hwi_7 hsr_8_1 (by omega) hvi_4_2 (by omega)) (show x_17.toInt ≤ 10 from by omega) (dw_lo hloi_4 qx_17) (dw_hn hni_4 qx_17)
      · have fc_15 : r_8.toInt = r_12.toInt := zf_eq c_15 rfl rfl
        refine lv_aload_n hx hb dX3_readWord_31 rfl (lv_at hl 4 rfl) ?_
        refine lv_iload_n hx hb dX3_readWord_32 rfl (lv_at hl 2 rfl) ?_
        refine lv_iload hx hb dX3_readWord_33 (lv_at hl 0 rfl) ?_
        skip
        refine zw_V (As := [.int i_4, .int r_8]) (rest := []) (wr := [(rl, .inl (cI, 160, .inl fl))]) ⟨hx, hb, hml, hown, hts⟩ (c_F_R_takeWord l D cI cJ cZ cP cS po rd ri rl (rz) (rc) (rp) (rf) (rt) (ru) (i_4) (r_8) hy0 hy1 hy2 hy3 hy4 hy5 (by omega) hy7 hy8 hy9 hy10 hy11 hy12 (by omega) (by omega) (by omega) (by omega) (by omega) H.size) (cwV 2 hts gX3_readWord_X3_takeWord rfl rfl rfl ⟨rfl, dh_X3_takeWord⟩ ⟨Nat.le_of_ble_eq_true rfl, Nat.le_of_ble_eq_true rfl⟩) hK hN (hZ.kept hS) hP hD hS hA [0] [1] rfl rfl (by decide) (by decide) (by decide) (va_recv (q := (RX3, TX3, 8)) hK hP (ci := 3) (q0 := 0) rfl rfl) rfl hl.1 rfl (Nat.le_of_ble_eq_true rfl) dX3_readWord_35 ⟨Nat.le_of_ble_eq_true rfl, Nat.le_of_ble_eq_true rfl⟩ (fun r_18 u_19 H locs hr_18 hP hD hS => ?_)
        obtain ⟨q_20, q_21⟩ := u_19
        try dsimp only at hr_18
        obtain ⟨hbq_20, hbq_21, hsr_18_0, hsr_18_1, hr_18⟩ := hr_18
        have h9R := zRe (ws' := [(rl, .inl (cI, 160, .inl fl)), (rd, .inr (3, [.ref ri, .ref rl, .int rz, .int rc, .int q_20, .int q_21, .int rt, .int ru]))]) hP hD rfl
        clear hP hD
        obtain ⟨hP, hD⟩ := h9R
        obtain ⟨g_22, g_23⟩ := hr_18
        exact W.iret (v := r_18) hx hb hr (fun t ht hW => ⟨⟨r_18, (q_20, q_21), rfl, ⟨(show 0 ≤ q_20.toInt ∧ q_20.toInt ≤ 160 from hbq_20), (show (-1) ≤ q_21.toInt ∧ q_21.toInt ≤ 160 from hbq_21), (show q_20.toInt ≤ rz.toInt from by omega), (show ((zFst fl rz.toInt rp.toInt zWds 10 = -1 ∧ (r_18 : Int32).toInt = -1 ∧ q_21.toInt = rp.toInt + (zMx fl rz.toInt rp.toInt zWds 10 : Nat)) ∨ (zFst fl rz.toInt rp.toInt zWds 10 = 3 ∧ ru.toInt = 8 ∧ (r_18 : Int32).toInt = -1 ∧ q_21.toInt = rp.toInt) ∨ (zFst fl rz.toInt rp.toInt zWds 10 = (r_18 : Int32).toInt ∧ 0 ≤ (r_18 : Int32).toInt ∧ ¬ ((r_18 : Int32).toInt = 3 ∧ ru.toInt = 8) ∧ q_21.toInt = rf.toInt ∧ q_20.toInt = rp.toInt + ((zWds (r_18 : Int32).toInt.toNat).length : Nat))) from by exact zRW hi_7 hwi_7 hvi_4_1 hsr_8_1 hsr_12_0 (by omega) (by omega)), ⟨by omega, by omega⟩⟩, zRet ht hP hD [1, 0] (by decide) rfl⟩, hS.F ht⟩) hS.2.2 dX3_readWord_38
set_option maxHeartbeats 4000000 in
set_option maxRecDepth 100000 in
theorem c_F_R_expect (l : Launch) (D : va_G) (cI cJ cZ cP cS : ClassId) (po : zPool) (rd ri rl : Nat) (rz rc rp rf rt ru : Int32) (fl : Nat → Int32) (ch : Int32) (hy0 : 0 ≤ rz.toInt) (hy1 : rz.toInt ≤ 160) (hy2 : 0 ≤ rc.toInt) (hy3 : rc.toInt ≤ 40) (hy4 : 0 ≤ rp.toInt) (hy5 : rp.toInt ≤ 160) (hy6 : rp.toInt ≤ rz.toInt) (hy7 : (-1) ≤ rf.toInt) (hy8 : rf.toInt ≤ 160) (hy9 : 0 ≤ rt.toInt) (hy10 : rt.toInt ≤ 40) (hy11 : 0 ≤ ru.toInt) (hy12 : ru.toInt ≤ 8) (hpz : Nat) : Met l yX3_expect wsX3_expect ({ frames := 1, cells := 0, slots := 0, locals := 22 }) (va_Pc [.ref rd, .int ch] (zW D (zKT cI cJ cZ cP cS) po [(rd, .inr (3, [.ref ri, .ref rl, .int rz, .int rc, .int rp, .int rf, .int rt, .int ru])), (rl, .inl (cI, 160, .inl fl))] hpz)) (va_Qv (fun (u : (Int32) × (Int32)) => (0 ≤ u.1.toInt ∧ u.1.toInt ≤ 160) ∧ ((-1) ≤ u.2.toInt ∧ u.2.toInt ≤ 160) ∧ (u.1.toInt ≤ rz.toInt) ∧ (((rp.toInt < rz.toInt ∧ (fl rp.toInt.toNat).toInt = ch.toInt ∧ u.1.toInt = rp.toInt + 1 ∧ u.2.toInt = rf.toInt) ∨ (¬ (rp.toInt < rz.toInt ∧ (fl rp.toInt.toNat).toInt = ch.toInt) ∧ u.2.toInt = rp.toInt ∧ u.1.toInt = rp.toInt))) ∧ (True)) (zB D [(rd, .inr (3, [.ref ri, .ref rl, .int rz, .int rc, .int rp, .int rf, .int rt, .int ru])), (rl, .inl (cI, 160, .inl fl))] hpz (fun (u : (Int32) × (Int32)) => [(rd, .inr (3, [.ref ri, .ref rl, .int rz, .int rc, .int u.1, .int u.2, .int rt, .int ru])), (rl, .inl (cI, 160, .inl fl))])) (va_A [(rd, .inr (3, [.ref ri, .ref rl, .int rz, .int rc, .int rp, .int rf, .int rt, .int ru])), (rl, .inl (cI, 160, .inl fl))] hpz)) 0 0 (va_A [(rd, .inr (3, [.ref ri, .ref rl, .int rz, .int rc, .int rp, .int rf, .int rt, .int ru])), (rl, .inl (cI, 160, .inl fl))] hpz) := by
  refine Met.ofW (cc := cX3_expect) (maxL := 2) (ret := none) (by decide) rfl ?_
  intro p e s m args below meth c s₁ B hml hv
  obtain ⟨rfl, hsz, hP, hK, hD0, hN, hZ⟩ := hv
  have hx := B.exec
  have hb := B.bytes
  have hr := B.returns
  have hts := atoms_spec (ws := wsX3_expect) B.pre
  have hown : s.vm.findClass RX3 = some m.cls := findClass_of_methodNamed B.named
  have hlocks := B.notSynchronized
  subst hsz
  have hD := hD0.self (sz := s.heap.size)
  have hA := zA_of hD
  have hl := lv_entry ([.ref rd, .int ch]) (n := 2) (Nat.le_of_ble_eq_true rfl)
  rw [lg_entry_eq]
  generalize (lg_sl ([.ref rd, .int ch]) ++ List.replicate (2 - (lg_sl ([.ref rd, .int ch])).length) Slot.unset).toArray = ls at hl ⊢
  replace hl : lv_has ls 2 [(0, .ref rd), (1, .int ch)] := hl
  refine zw_begin hP hD (fun H locs hP1 hS => ?_)
  clear hP
  have hP := hP1
  clear hP1
  refine lv_aload_n hx hb dX3_expect_0 rfl (lv_at hl 0 rfl) ?_
  refine lv_aload_n hx hb dX3_expect_1 rfl (lv_at hl 0 rfl) ?_
  refine va_get (D := D) (ci := 3) (v := .int rp) (C := RX3) (T := TX3) (N := 8) hx hb hts hi_X3_expect_3 hown hK hP 0 rfl rfl 4 (by decide) (hts (.fieldLink RX3 25 "TheLiningsInIt$Reader" "place" "I") (List.mem_of_getElem? (i := 1) rfl)) (fun _ h9 => h9) rfl dX3_expect_2 ?_
  refine lv_iload_n hx hb dX3_expect_5 rfl (lv_at hl 1 rfl) ?_
  refine zc_V (As := [.int rp, .int ch]) (rest := []) ⟨hx, hb, hml, hown, hts⟩ (c_R_stands l D cI cJ cZ cP cS po rd ri rl (rz) (rc) (rp) (rf) (rt) (ru) fl (rp) (ch) hy0 hy1 hy2 hy3 hy4 hy5 (by omega) hy7 hy8 hy9 hy10 hy11 hy12) (cwV 2 hts gX3_expect_X3_stands rfl rfl rfl ⟨rfl, dh_X3_stands⟩ ⟨Nat.le_of_ble_eq_true rfl, Nat.le_of_ble_eq_true rfl⟩) hK hN (hZ.kept hS) hP (hP.sub [0, 1] rfl) (va_recv (q := (RX3, TX3, 8)) hK hP (ci := 3) (q0 := 0) rfl rfl) rfl hl.1 rfl (Nat.le_of_ble_eq_true rfl) dX3_expect_6 ⟨Nat.le_of_ble_eq_true rfl, Nat.le_of_ble_eq_true rfl⟩ (fun r_1 hr_1 => ?_)
  obtain ⟨g_2, g_3, hsr_1_0, hsr_1_1⟩ := hr_1
  refine lv_if_eq (tgt := 25) hx hb dX3_expect_9 (by decide) (fun c_4 => ?_) (fun c_4 => ?_)
  · have fc_4 : r_1.toInt = 0 := zf_eq c_4 rfl (by decide)
    refine lv_aload_n hx hb dX3_expect_25 rfl (lv_at hl 0 rfl) ?_
    refine lv_aload_n hx hb dX3_expect_26 rfl (lv_at hl 0 rfl) ?_
    refine va_get (D := D) (ci := 3) (v := .int rp) (C := RX3) (T := TX3) (N := 8) hx hb hts hi_X3_expect_3 hown hK hP 0 rfl rfl 4 (by decide) (hts (.fieldLink RX3 25 "TheLiningsInIt$Reader" "place" "I") (List.mem_of_getElem? (i := 1) rfl)) (fun _ h9 => h9) rfl dX3_expect_27 ?_
    refine va_put (D := D) (ci := 3) (v := .int rp) (ty := .int) (C := RX3) (T := TX3) (N := 8) hx hb hts hi_X3_expect_3 tyX3 tyX3_ok nmX3 hown hK hP hD hS 0 rfl rfl 5 (by decide) (hts (.fieldLink RX3 28 "TheLiningsInIt$Reader" "fault" "I") (List.mem_of_getElem? (i := 2) rfl)) (fun _ h9 => h9) rfl (tyX3_ok 5 (Nat.le_of_ble_eq_true rfl)) rfl rfl (Nat.le_of_ble_eq_true rfl) dX3_expect_30 (fun H locs hP hD hS => ?_)
    have h9R := zRe (ws' := [(rd, .inr (3, [.ref ri, .ref rl, .int rz, .int rc, .int rp, .int rp, .int rt, .int ru])), (rl, .inl (cI, 160, .inl fl))]) hP hD rfl
    clear hP hD
    obtain ⟨hP, hD⟩ := h9R
    exact W.vret hx hb hr (fun t ht hW => ⟨⟨(rp, rp), rfl, ⟨(show 0 ≤ rp.toInt ∧ rp.toInt ≤ 160 from ⟨hy4, hy5⟩), (show (-1) ≤ rp.toInt ∧ rp.toInt ≤ 160 from ⟨by omega, hy5⟩), (show rp.toInt ≤ rz.toInt from by omega), (show ((rp.toInt < rz.toInt ∧ (fl rp.toInt.toNat).toInt = ch.toInt ∧ rp.toInt = rp.toInt + 1 ∧ rp.toInt = rf.toInt) ∨ (¬ (rp.toInt < rz.toInt ∧ (fl rp.toInt.toNat).toInt = ch.toInt) ∧ rp.toInt = rp.toInt ∧ rp.toInt = rp.toInt)) from by first | exact Or.inl ⟨(zSt_yes hsr_1_1 (by omega)).1, (zSt_yes hsr_1_1 (by omega)).2, by omega, by omega⟩ | exact Or.inr ⟨zSt_no hsr_1_1 (by omega) (by omega), by omega, by omega⟩), trivial⟩, zRet ht hP hD [0, 1] (by decide) rfl⟩, hS.F ht⟩) hS.2.2 dX3_expect_33
  · have fc_4 : r_1.toInt ≠ 0 := zf_ne c_4 rfl (by decide)
    refine lv_aload_n hx hb dX3_expect_12 rfl (lv_at hl 0 rfl) ?_
    refine lv_dup hx hb dX3_expect_13 rfl ?_
    refine va_get (D := D) (ci := 3) (v := .int rp) (C := RX3) (T := TX3) (N := 8) hx hb hts hi_X3_expect_3 hown hK hP 0 rfl rfl 4 (by decide) (hts (.fieldLink RX3 25 "TheLiningsInIt$Reader" "place" "I") (List.mem_of_getElem? (i := 1) rfl)) (fun _ h9 => h9) rfl dX3_expect_14 ?_
    refine lv_iconst (v := 1) hx hb dX3_expect_17 (by decide) ?_
    refine lv_iadd hx hb dX3_expect_18 ?_
    refine lv_topi (fun x_5 ex_5 => ?_)
    have qx_5 : x_5.toInt = rp.toInt + 1 := by rw [ex_5]; exact zf_add rfl (by decide) (by omega) (by omega)
    refine va_put (D := D) (ci := 3) (v := .int x_5) (ty := .int) (C := RX3) (T := TX3) (N := 8) hx hb hts hi_X3_expect_3 tyX3 tyX3_ok nmX3 hown hK hP hD hS 0 rfl rfl 4 (by decide) (hts (.fieldLink RX3 25 "TheLiningsInIt$Reader" "place" "I") (List.mem_of_getElem? (i := 1) rfl)) (fun _ h9 => h9) rfl (tyX3_ok 4 (Nat.le_of_ble_eq_true rfl)) rfl rfl (Nat.le_of_ble_eq_true rfl) dX3_expect_19 (fun H locs hP hD hS => ?_)
    have h9R := zRe (ws' := [(rd, .inr (3, [.ref ri, .ref rl, .int rz, .int rc, .int x_5, .int rf, .int rt, .int ru])), (rl, .inl (cI, 160, .inl fl))]) hP hD rfl
    clear hP hD
    obtain ⟨hP, hD⟩ := h9R
    refine lv_goto (tgt := 33) hx hb dX3_expect_22 (by decide) ?_
    exact W.vret hx hb hr (fun t ht hW => ⟨⟨(x_5, rf), rfl, ⟨(show 0 ≤ x_5.toInt ∧ x_5.toInt ≤ 160 from ⟨by omega, by omega⟩), (show (-1) ≤ rf.toInt ∧ rf.toInt ≤ 160 from ⟨hy7, hy8⟩), (show x_5.toInt ≤ rz.toInt from by omega), (show ((rp.toInt < rz.toInt ∧ (fl rp.toInt.toNat).toInt = ch.toInt ∧ x_5.toInt = rp.toInt + 1 ∧ rf.toInt = rf.toInt) ∨ (¬ (rp.toInt < rz.toInt ∧ (fl rp.toInt.toNat).toInt = ch.toInt) ∧ rf.toInt = rp.toInt ∧ x_5.toInt = rp.toInt)) from by first | exact Or.inl ⟨(zSt_yes hsr_1_1 (by omega)).1, (zSt_yes hsr_1_1 (by omega)).2, by omega, by omega⟩ | exact Or.inr ⟨zSt_no hsr_1_1 (by omega) (by omega), by omega, by omega⟩), trivial⟩, zRet ht hP hD [0, 1] (by decide) rfl⟩, hS.F ht⟩) hS.2.2 dX3_expect_33
set_option maxHeartbeats 4000000 in
set_option maxRecDepth 100000 in
theorem c_F_R_readNumber (l : Launch) (D : va_G) (cI cJ cZ cP cS : ClassId) (po : zPool) (rd ri rl : Nat) (rz rc rp rf rt ru : Int32) (fl : Nat → Int32) (lo hi : Int32) (hy0 : 0 ≤ rz.toInt) (hy1 : rz.toInt ≤ 160) (hy2 : 0 ≤ rc.toInt) (hy3 : rc.toInt ≤ 40) (hy4 : 0 ≤ rp.toInt) (hy5 : rp.toInt ≤ 160) (hy6 : rp.toInt ≤ rz.toInt) (hy7 : (-1) ≤ rf.toInt) (hy8 : rf.toInt ≤ 160) (hy9 : 0 ≤ rt.toInt) (hy10 : rt.toInt ≤ 40) (hy11 : 0 ≤ ru.toInt) (hy12 : ru.toInt ≤ 8) (hpz : Nat) : Met l yX3_readNumber wsX3_readNumber ({ frames := 1, cells := 0, slots := 0, locals := 22 }) (va_Pc [.ref rd, .int lo, .int hi] (zW D (zKT cI cJ cZ cP cS) po [(rd, .inr (3, [.ref ri, .ref rl, .int rz, .int rc, .int rp, .int rf, .int rt, .int ru])), (rl, .inl (cI, 160, .inl fl))] hpz)) (va_Qi (fun (r : Int32) (u : (Int32) × (Int32)) => (0 ≤ u.1.toInt ∧ u.1.toInt ≤ 160) ∧ ((-1) ≤ u.2.toInt ∧ u.2.toInt ≤ 160) ∧ (u.1.toInt ≤ rz.toInt) ∧ (u.1.toInt = zNe fl rz.toInt rp.toInt) ∧ (r.toInt = zNv fl rp.toInt u.1.toInt) ∧ (((u.2.toInt = rp.toInt ∧ (u.1.toInt = rp.toInt ∨ r.toInt < lo.toInt ∨ hi.toInt < r.toInt)) ∨ (u.2.toInt = rf.toInt ∧ u.1.toInt ≠ rp.toInt ∧ lo.toInt ≤ r.toInt ∧ r.toInt ≤ hi.toInt))) ∧ (0 ≤ r.toInt ∧ r.toInt ≤ 999)) (zB D [(rd, .inr (3, [.ref ri, .ref rl, .int rz, .int rc, .int rp, .int rf, .int rt, .int ru])), (rl, .inl (cI, 160, .inl fl))] hpz (fun (u : (Int32) × (Int32)) => [(rd, .inr (3, [.ref ri, .ref rl, .int rz, .int rc, .int u.1, .int u.2, .int rt, .int ru])), (rl, .inl (cI, 160, .inl fl))])) (va_A [(rd, .inr (3, [.ref ri, .ref rl, .int rz, .int rc, .int rp, .int rf, .int rt, .int ru])), (rl, .inl (cI, 160, .inl fl))] hpz)) 0 0 (va_A [(rd, .inr (3, [.ref ri, .ref rl, .int rz, .int rc, .int rp, .int rf, .int rt, .int ru])), (rl, .inl (cI, 160, .inl fl))] hpz) := by
  refine Met.ofW (cc := cX3_readNumber) (maxL := 5) (ret := (some .int)) (by decide) rfl ?_
  intro p e s m args below meth c s₁ B hml hv
  obtain ⟨rfl, hsz, hP, hK, hD0, hN, hZ⟩ := hv
  have hx := B.exec
  have hb := B.bytes
  have hr := B.returns
  have hts := atoms_spec (ws := wsX3_readNumber) B.pre
  have hown : s.vm.findClass RX3 = some m.cls := findClass_of_methodNamed B.named
  have hlocks := B.notSynchronized
  subst hsz
  have hD := hD0.self (sz := s.heap.size)
  have hA := zA_of hD
  have hl := lv_entry ([.ref rd, .int lo, .int hi]) (n := 5) (Nat.le_of_ble_eq_true rfl)
  rw [lg_entry_eq]
  generalize (lg_sl ([.ref rd, .int lo, .int hi]) ++ List.replicate (5 - (lg_sl ([.ref rd, .int lo, .int hi])).length) Slot.unset).toArray = ls at hl ⊢
  replace hl : lv_has ls 5 [(0, .ref rd), (1, .int lo), (2, .int hi)] := hl
  refine zw_begin hP hD (fun H locs hP1 hS => ?_)
  clear hP
  have hP := hP1
  clear hP1
  refine lv_aload_n hx hb dX3_readNumber_0 rfl (lv_at hl 0 rfl) ?_
  refine va_get (D := D) (ci := 3) (v := .int rp) (C := RX3) (T := TX3) (N := 8) hx hb hts hi_X3_readNumber_3 hown hK hP 0 rfl rfl 4 (by decide) (hts (.fieldLink RX3 25 "TheLiningsInIt$Reader" "place" "I") (List.mem_of_getElem? (i := 1) rfl)) (fun _ h9 => h9) rfl dX3_readNumber_1 ?_
  refine lv_istore_n (lv' := [(3, .int rp), (0, .ref rd), (1, .int lo), (2, .int hi)]) hx hb dX3_readNumber_4 rfl hl (by decide) rfl (fun ls hl => ?_)
  refine lv_iconst (v := 0) hx hb dX3_readNumber_5 (by decide) ?_
  refine lv_istore (lv' := [(4, .int 0), (3, .int rp), (0, .ref rd), (1, .int lo), (2, .int hi)]) hx hb dX3_readNumber_6 hl (by decide) rfl (fun ls hl => ?_)
  obtain ⟨i_8, hi_8⟩ : ∃ i : Int32, i = rp := ⟨_, rfl⟩
  replace hl : lv_has ls 5 [(4, .int 0), (3, .int rp), (0, .ref rd), (1, .int lo), (2, .int hi)] := lv_sub hl [0, 1, 2, 3, 4] rfl
  replace hP : va_P D vwCl [(rd, .inr (3, [.ref ri, .ref rl, .int rz, .int rc, .int i_8, .int rf, .int rt, .int ru])), (rl, .inl (cI, 160, .inl fl))] H := by rw [hi_8]; exact hP
  replace hD : va_D (va_A [(rd, .inr (3, [.ref ri, .ref rl, .int rz, .int rc, .int rp, .int rf, .int rt, .int ru])), (rl, .inl (cI, 160, .inl fl))] s.heap.size) [(rd, .inr (3, [.ref ri, .ref rl, .int rz, .int rc, .int i_8, .int rf, .int rt, .int ru])), (rl, .inl (cI, 160, .inl fl))] := by rw [hi_8]; exact hD
  have h1i_8 : i_8.toInt = rp.toInt := by rw [hi_8]
  obtain ⟨nfu, hni_8⟩ : ∃ nq9 : Nat, rz.toInt ≤ i_8.toInt + (nq9 : Int) := ⟨((rz.toInt : Int) - rp.toInt).toNat, by omega⟩
  have hloi_8 : 0 ≤ i_8.toInt := by omega
  obtain ⟨v_1, hv_1⟩ : ∃ g : Int32, g = 0 := ⟨_, rfl⟩
  replace hl : lv_has ls 5 [(4, .int v_1), (3, .int rp), (0, .ref rd), (1, .int lo), (2, .int hi)] := by rw [hv_1]; exact hl
  have hbv_1 : 0 ≤ v_1.toInt ∧ v_1.toInt ≤ 999 := by rw [hv_1]; exact ⟨by decide, by decide⟩
  have hvi_8_0 : rp.toInt ≤ i_8.toInt ∧ i_8.toInt ≤ rz.toInt := by
    (try rw [hi_8]); (try rw [hv_1]); exact ⟨by omega, by omega⟩
  have hvi_8_1 : i_8.toInt ≤ rp.toInt + 3 := by
    (try rw [hi_8]); (try rw [hv_1]); omega
  have hvi_8_2 : (∀ j : Int, rp.toInt ≤ j → j < i_8.toInt → zDg fl rz.toInt j) := by
    (try rw [hi_8]); (try rw [hv_1]); (intro j h1 h2; exfalso; omega)
  have hvi_8_3 : (v_1 : Int32).toInt = zNv fl rp.toInt i_8.toInt := by
    (try rw [hi_8]); (try rw [hv_1]); (rw [show ((0 : Int32).toInt) = 0 from by decide]; exact zNv_0.symm)
  have hvi_8_4 : (i_8.toInt = rp.toInt → (v_1 : Int32).toInt = 0) ∧ (i_8.toInt ≤ rp.toInt + 1 → (v_1 : Int32).toInt ≤ 9) ∧ (i_8.toInt ≤ rp.toInt + 2 → (v_1 : Int32).toInt ≤ 99) := by
    (try rw [hi_8]); (try rw [hv_1]); (have k0 : (0 : Int32).toInt = 0 := (by decide); omega)
  clear h1i_8 hi_8 hv_1
  skip
  revert hni_8
  revert hloi_8
  revert hvi_8_4
  revert hvi_8_3
  revert hvi_8_2
  revert hvi_8_1
  revert hvi_8_0
  revert hbv_1
  revert hl
  revert hS
  revert hD
  revert hP
  revert ls
  revert locs
  revert H
  revert v_1
  revert i_8
  induction nfu with
  | zero =>
    intro i_8 v_1 H locs ls hP hD hS hl hbv_1 hvi_8_0 hvi_8_1 hvi_8_2 hvi_8_3 hvi_8_4 hloi_8 hni_8
    have hzi_8 : rz.toInt ≤ i_8.toInt := by omega
    refine lv_aload_n hx hb dX3_readNumber_8 rfl (lv_at hl 2 rfl) ?_
    refine va_get (D := D) (ci := 3) (v := .int i_8) (C := RX3) (T := TX3) (N := 8) hx hb hts hi_X3_readNumber_3 hown hK hP 0 rfl rfl 4 (by decide) (hts (.fieldLink RX3 25 "TheLiningsInIt$Reader" "place" "I") (List.mem_of_getElem? (i := 1) rfl)) (fun _ h9 => h9) rfl dX3_readNumber_9 ?_
    refine lv_aload_n hx hb dX3_readNumber_12 rfl (lv_at hl 2 rfl) ?_
    refine va_get (D := D) (ci := 3) (v := .int rz) (C := RX3) (T := TX3) (N := 8) hx hb hts hi_X3_readNumber_3 hown hK hP 0 rfl rfl 2 (by decide) (hts (.fieldLink RX3 18 "TheLiningsInIt$Reader" "size" "I") (List.mem_of_getElem? (i := 2) rfl)) (fun _ h9 => h9) rfl dX3_readNumber_13 ?_
    refine lv_icmp_ge (tgt := 77) hx hb dX3_readNumber_16 (by decide) (fun c_2 => ?_) (fun c_2 => ?_)
    · have fc_2 : rz.toInt ≤ i_8.toInt := zf_le c_2 rfl rfl
      refine lv_aload_n hx hb dX3_readNumber_77 rfl (lv_at hl 2 rfl) ?_
      refine va_get (D := D) (ci := 3) (v := .int i_8) (C := RX3) (T := TX3) (N := 8) hx hb hts hi_X3_readNumber_3 hown hK hP 0 rfl rfl 4 (by decide) (hts (.fieldLink RX3 25 "TheLiningsInIt$Reader" "place" "I") (List.mem_of_getElem? (i := 1) rfl)) (fun _ h9 => h9) rfl dX3_readNumber_78 ?_
      refine lv_iload_n hx hb dX3_readNumber_81 rfl (lv_at hl 1 rfl) ?_
      refine lv_icmp_eq (tgt := 95) hx hb dX3_readNumber_82 (by decide) (fun c_3 => ?_) (fun c_3 => ?_)
      · have fc_3 : i_8.toInt = rp.toInt := zf_eq c_3 rfl rfl
        refine lv_aload_n hx hb dX3_readNumber_95 rfl (lv_at hl 2 rfl) ?_
        refine lv_iload_n hx hb dX3_readNumber_96 rfl (lv_at hl 1 rfl) ?_
        refine va_put (D := D) (ci := 3) (v := .int rp) (ty := .int) (C := RX3) (T := TX3) (N := 8) hx hb hts hi_X3_readNumber_3 tyX3 tyX3_ok nmX3 hown hK hP hD hS 0 rfl rfl 5 (by decide) (hts (.fieldLink RX3 28 "TheLiningsInIt$Reader" "fault" "I") (List.mem_of_getElem? (i := 4) rfl)) (fun _ h9 => h9) rfl (tyX3_ok 5 (Nat.le_of_ble_eq_true rfl)) rfl rfl (Nat.le_of_ble_eq_true rfl) dX3_readNumber_97 (fun H locs hP hD hS => ?_)
        have h9R := zRe (ws' := [(rd, .inr (3, [.ref ri, .ref rl, .int rz, .int rc, .int i_8, .int rp, .int rt, .int ru])), (rl, .inl (cI, 160, .inl fl))]) hP hD rfl
        clear hP hD
        obtain ⟨hP, hD⟩ := h9R
        refine lv_iload hx hb dX3_readNumber_100 (lv_at hl 0 rfl) ?_
        exact W.iret (v := v_1) hx hb hr (fun t ht hW => ⟨⟨v_1, (i_8, rp), rfl, ⟨(show 0 ≤ i_8.toInt ∧ i_8.toInt ≤ 160 from ⟨by omega, by omega⟩), (show (-1) ≤ rp.toInt ∧ rp.toInt ≤ 160 from ⟨by omega, hy5⟩), (show i_8.toInt ≤ rz.toInt from by omega), (show i_8.toInt = zNe fl rz.toInt rp.toInt from by first | exact (zNe_eq (by omega) (by omega) hvi_8_2 (Or.inr (fun z => by (have z1 := z.1; omega)))).symm | exact (zNe_eq (by omega) (by omega) hvi_8_2 (Or.inl (by omega))).symm), (show (v_1 : Int32).toInt = zNv fl rp.toInt i_8.toInt from by assumption), (show ((rp.toInt = rp.toInt ∧ (i_8.toInt = rp.toInt ∨ (v_1 : Int32).toInt < lo.toInt ∨ hi.toInt < (v_1 : Int32).toInt)) ∨ (rp.toInt = rf.toInt ∧ i_8.toInt ≠ rp.toInt ∧ lo.toInt ≤ (v_1 : Int32).toInt ∧ (v_1 : Int32).toInt ≤ hi.toInt)) from by omega), ⟨by omega, by omega⟩⟩, zRet ht hP hD [0, 1] (by decide) rfl⟩, hS.F ht⟩) hS.2.2 dX3_readNumber_102
      · have fc_3 : i_8.toInt ≠ rp.toInt := zf_ne c_3 rfl rfl
        refine lv_iload hx hb dX3_readNumber_85 (lv_at hl 0 rfl) ?_
        refine lv_iload_n hx hb dX3_readNumber_87 rfl (lv_at hl 3 rfl) ?_
        refine lv_iload_n hx hb dX3_readNumber_88 rfl (lv_at hl 4 rfl) ?_
        refine zc_SN (As := [.int v_1, .int lo, .int hi]) (rest := []) ⟨hx, hb, hml, hown, hts⟩ (c_within l D cI cJ cZ cP cS po (v_1) (lo) (hi) ) ⟨(va_cnB 3 hts gX3_readNumber_X7_within_n109 rfl rfl rfl (hN.1 (RX3, 109, yX7_within) (List.mem_of_getElem? (i := 8) rfl)) (hts _ (List.mem_of_getElem? (i := 10) rfl)) dh_X7_within ⟨Nat.le_of_ble_eq_true rfl, Nat.le_of_ble_eq_true rfl⟩), (hts _ (List.mem_of_getElem? (i := 9) rfl)), trivial⟩ hK hN (hZ.kept hS) rfl hl.1 rfl (Nat.le_of_ble_eq_true rfl) dX3_readNumber_89 ⟨Nat.le_of_ble_eq_true rfl, Nat.le_of_ble_eq_true rfl⟩ (fun r_4 hr_4 => ?_)
        rcases hr_4 with ⟨rfl, g_5⟩ | ⟨rfl, g_6, g_7⟩ | ⟨rfl, g_8, g_9⟩
        · refine lv_if_ne (tgt := 100) hx hb dX3_readNumber_92 (by decide) (fun c_10 => ?_) (fun c_10 => ?_)
          · exact absurd c_10 (by decide)
          · refine lv_aload_n hx hb dX3_readNumber_95 rfl (lv_at hl 2 rfl) ?_
            refine lv_iload_n hx hb dX3_readNumber_96 rfl (lv_at hl 1 rfl) ?_
            refine va_put (D := D) (ci := 3) (v := .int rp) (ty := .int) (C := RX3) (T := TX3) (N := 8) hx hb hts hi_X3_readNumber_3 tyX3 tyX3_ok nmX3 hown hK hP hD hS 0 rfl rfl 5 (by decide) (hts (.fieldLink RX3 28 "TheLiningsInIt$Reader" "fault" "I") (List.mem_of_getElem? (i := 4) rfl)) (fun _ h9 => h9) rfl (tyX3_ok 5 (Nat.le_of_ble_eq_true rfl)) rfl rfl (Nat.le_of_ble_eq_true rfl) dX3_readNumber_97 (fun H locs hP hD hS => ?_)
            have h9R := zRe (ws' := [(rd, .inr (3, [.ref ri, .ref rl, .int rz, .int rc, .int i_8, .int rp, .int rt, .int ru])), (rl, .inl (cI, 160, .inl fl))]) hP hD rfl
            clear hP hD
            obtain ⟨hP, hD⟩ := h9R
            refine lv_iload hx hb dX3_readNumber_100 (lv_at hl 0 rfl) ?_
            exact W.iret (v := v_1) hx hb hr (fun t ht hW => ⟨⟨v_1, (i_8, rp), rfl, ⟨(show 0 ≤ i_8.toInt ∧ i_8.toInt ≤ 160 from ⟨by omega, by omega⟩), (show (-1) ≤ rp.toInt ∧ rp.toInt ≤ 160 from ⟨by omega, hy5⟩), (show i_8.toInt ≤ rz.toInt from by omega), (show i_8.toInt = zNe fl rz.toInt rp.toInt from by first | exact (zNe_eq (by omega) (by omega) hvi_8_2 (Or.inr (fun z => by (have z1 := z.1; omega)))).symm | exact (zNe_eq (by omega) (by omega) hvi_8_2 (Or.inl (by omega))).symm), (show (v_1 : Int32).toInt = zNv fl rp.toInt i_8.toInt from by assumption), (show ((rp.toInt = rp.toInt ∧ (i_8.toInt = rp.toInt ∨ (v_1 : Int32).toInt < lo.toInt ∨ hi.toInt < (v_1 : Int32).toInt)) ∨ (rp.toInt = rf.toInt ∧ i_8.toInt ≠ rp.toInt ∧ lo.toInt ≤ (v_1 : Int32).toInt ∧ (v_1 : Int32).toInt ≤ hi.toInt)) from by omega), ⟨by omega, by omega⟩⟩, zRet ht hP hD [0, 1] (by decide) rfl⟩, hS.F ht⟩) hS.2.2 dX3_readNumber_102
        · refine lv_if_ne (tgt := 100) hx hb dX3_readNumber_92 (by decide) (fun c_11 => ?_) (fun c_11 => ?_)
          · exact absurd c_11 (by decide)
          · refine lv_aload_n hx hb dX3_readNumber_95 rfl (lv_at hl 2 rfl) ?_
            refine lv_iload_n hx hb dX3_readNumber_96 rfl (lv_at hl 1 rfl) ?_
            refine va_put (D := D) (ci := 3) (v := .int rp) (ty := .int) (C := RX3) (T := TX3) (N := 8) hx hb hts hi_X3_readNumber_3 tyX3 tyX3_ok nmX3 hown hK hP hD hS 0 rfl rfl 5 (by decide) (hts (.fieldLink RX3 28 "TheLiningsInIt$Reader" "fault" "I") (List.mem_of_getElem? (i := 4) rfl)) (fun _ h9 => h9) rfl (tyX3_ok 5 (Nat.le_of_ble_eq_true rfl)) rfl rfl (Nat.le_of_ble_eq_true rfl) dX3_readNumber_97 (fun H locs hP hD hS => ?_)
            have h9R := zRe (ws' := [(rd, .inr (3, [.ref ri, .ref rl, .int rz, .int rc, .int i_8, .int rp, .int rt, .int ru])), (rl, .inl (cI, 160, .inl fl))]) hP hD rfl
            clear hP hD
            obtain ⟨hP, hD⟩ := h9R
            refine lv_iload hx hb dX3_readNumber_100 (lv_at hl 0 rfl) ?_
            exact W.iret (v := v_1) hx hb hr (fun t ht hW => ⟨⟨v_1, (i_8, rp), rfl, ⟨(show 0 ≤ i_8.toInt ∧ i_8.toInt ≤ 160 from ⟨by omega, by omega⟩), (show (-1) ≤ rp.toInt ∧ rp.toInt ≤ 160 from ⟨by omega, hy5⟩), (show i_8.toInt ≤ rz.toInt from by omega), (show i_8.toInt = zNe fl rz.toInt rp.toInt from by first | exact (zNe_eq (by omega) (by omega) hvi_8_2 (Or.inr (fun z => by (have z1 := z.1; omega)))).symm | exact (zNe_eq (by omega) (by omega) hvi_8_2 (Or.inl (by omega))).symm), (show (v_1 : Int32).toInt = zNv fl rp.toInt i_8.toInt from by assumption), (show ((rp.toInt = rp.toInt ∧ (i_8.toInt = rp.toInt ∨ (v_1 : Int32).toInt < lo.toInt ∨ hi.toInt < (v_1 : Int32).toInt)) ∨ (rp.toInt = rf.toInt ∧ i_8.toInt ≠ rp.toInt ∧ lo.toInt ≤ (v_1 : Int32).toInt ∧ (v_1 : Int32).toInt ≤ hi.toInt)) from by omega), ⟨by omega, by omega⟩⟩, zRet ht hP hD [0, 1] (by decide) rfl⟩, hS.F ht⟩) hS.2.2 dX3_readNumber_102
        · refine lv_if_ne (tgt := 100) hx hb dX3_readNumber_92 (by decide) (fun c_12 => ?_) (fun c_12 => ?_)
          · refine lv_iload hx hb dX3_readNumber_100 (lv_at hl 0 rfl) ?_
            exact W.iret (v := v_1) hx hb hr (fun t ht hW => ⟨⟨v_1, (i_8, rf), rfl, ⟨(show 0 ≤ i_8.toInt ∧ i_8.toInt ≤ 160 from ⟨by omega, by omega⟩), (show (-1) ≤ rf.toInt ∧ rf.toInt ≤ 160 from ⟨hy7, hy8⟩), (show i_8.toInt ≤ rz.toInt from by omega), (show i_8.toInt = zNe fl rz.toInt rp.toInt from by first | exact (zNe_eq (by omega) (by omega) hvi_8_2 (Or.inr (fun z => by (have z1 := z.1; omega)))).symm | exact (zNe_eq (by omega) (by omega) hvi_8_2 (Or.inl (by omega))).symm), (show (v_1 : Int32).toInt = zNv fl rp.toInt i_8.toInt from by assumption), (show ((rf.toInt = rp.toInt ∧ (i_8.toInt = rp.toInt ∨ (v_1 : Int32).toInt < lo.toInt ∨ hi.toInt < (v_1 : Int32).toInt)) ∨ (rf.toInt = rf.toInt ∧ i_8.toInt ≠ rp.toInt ∧ lo.toInt ≤ (v_1 : Int32).toInt ∧ (v_1 : Int32).toInt ≤ hi.toInt)) from by omega), ⟨by omega, by omega⟩⟩, zRet ht hP hD [0, 1] (by decide) rfl⟩, hS.F ht⟩) hS.2.2 dX3_readNumber_102
          · exact absurd c_12 (by decide)
    · exfalso; have fc_2 : i_8.toInt < rz.toInt := zf_nle c_2 rfl rfl; omega
  | succ nfu ih =>
    intro i_8 v_1 H locs ls hP hD hS hl hbv_1 hvi_8_0 hvi_8_1 hvi_8_2 hvi_8_3 hvi_8_4 hloi_8 hni_8
    refine lv_aload_n hx hb dX3_readNumber_8 rfl (lv_at hl 2 rfl) ?_
    refine va_get (D := D) (ci := 3) (v := .int i_8) (C := RX3) (T := TX3) (N := 8) hx hb hts hi_X3_readNumber_3 hown hK hP 0 rfl rfl 4 (by decide) (hts (.fieldLink RX3 25 "TheLiningsInIt$Reader" "place" "I") (List.mem_of_getElem? (i := 1) rfl)) (fun _ h9 => h9) rfl dX3_readNumber_9 ?_
    refine lv_aload_n hx hb dX3_readNumber_12 rfl (lv_at hl 2 rfl) ?_
    refine va_get (D := D) (ci := 3) (v := .int rz) (C := RX3) (T := TX3) (N := 8) hx hb hts hi_X3_readNumber_3 hown hK hP 0 rfl rfl 2 (by decide) (hts (.fieldLink RX3 18 "TheLiningsInIt$Reader" "size" "I") (List.mem_of_getElem? (i := 2) rfl)) (fun _ h9 => h9) rfl dX3_readNumber_13 ?_
    refine lv_icmp_ge (tgt := 77) hx hb dX3_readNumber_16 (by decide) (fun c_13 => ?_) (fun c_13 => ?_)
    · have fc_13 : rz.toInt ≤ i_8.toInt := zf_le c_13 rfl rfl
      refine lv_aload_n hx hb dX3_readNumber_77 rfl (lv_at hl 2 rfl) ?_
      refine va_get (D := D) (ci := 3) (v := .int i_8) (C := RX3) (T := TX3) (N := 8) hx hb hts hi_X3_readNumber_3 hown hK hP 0 rfl rfl 4 (by decide) (hts (.fieldLink RX3 25 "TheLiningsInIt$Reader" "place" "I") (List.mem_of_getElem? (i := 1) rfl)) (fun _ h9 => h9) rfl dX3_readNumber_78 ?_
      refine lv_iload_n hx hb dX3_readNumber_81 rfl (lv_at hl 1 rfl) ?_
      refine lv_icmp_eq (tgt := 95) hx hb dX3_readNumber_82 (by decide) (fun c_14 => ?_) (fun c_14 => ?_)
      · have fc_14 : i_8.toInt = rp.toInt := zf_eq c_14 rfl rfl
        refine lv_aload_n hx hb dX3_readNumber_95 rfl (lv_at hl 2 rfl) ?_
        refine lv_iload_n hx hb dX3_readNumber_96 rfl (lv_at hl 1 rfl) ?_
        refine va_put (D := D) (ci := 3) (v := .int rp) (ty := .int) (C := RX3) (T := TX3) (N := 8) hx hb hts hi_X3_readNumber_3 tyX3 tyX3_ok nmX3 hown hK hP hD hS 0 rfl rfl 5 (by decide) (hts (.fieldLink RX3 28 "TheLiningsInIt$Reader" "fault" "I") (List.mem_of_getElem? (i := 4) rfl)) (fun _ h9 => h9) rfl (tyX3_ok 5 (Nat.le_of_ble_eq_true rfl)) rfl rfl (Nat.le_of_ble_eq_true rfl) dX3_readNumber_97 (fun H locs hP hD hS => ?_)
        have h9R := zRe (ws' := [(rd, .inr (3, [.ref ri, .ref rl, .int rz, .int rc, .int i_8, .int rp, .int rt, .int ru])), (rl, .inl (cI, 160, .inl fl))]) hP hD rfl
        clear hP hD
        obtain ⟨hP, hD⟩ := h9R
        refine lv_iload hx hb dX3_readNumber_100 (lv_at hl 0 rfl) ?_
        exact W.iret (v := v_1) hx hb hr (fun t ht hW => ⟨⟨v_1, (i_8, rp), rfl, ⟨(show 0 ≤ i_8.toInt ∧ i_8.toInt ≤ 160 from ⟨by omega, by omega⟩), (show (-1) ≤ rp.toInt ∧ rp.toInt ≤ 160 from ⟨by omega, hy5⟩), (show i_8.toInt ≤ rz.toInt from by omega), (show i_8.toInt = zNe fl rz.toInt rp.toInt from by first | exact (zNe_eq (by omega) (by omega) hvi_8_2 (Or.inr (fun z => by (have z1 := z.1; omega)))).symm | exact (zNe_eq (by omega) (by omega) hvi_8_2 (Or.inl (by omega))).symm), (show (v_1 : Int32).toInt = zNv fl rp.toInt i_8.toInt from by assumption), (show ((rp.toInt = rp.toInt ∧ (i_8.toInt = rp.toInt ∨ (v_1 : Int32).toInt < lo.toInt ∨ hi.toInt < (v_1 : Int32).toInt)) ∨ (rp.toInt = rf.toInt ∧ i_8.toInt ≠ rp.toInt ∧ lo.toInt ≤ (v_1 : Int32).toInt ∧ (v_1 : Int32).toInt ≤ hi.toInt)) from by omega), ⟨by omega, by omega⟩⟩, zRet ht hP hD [0, 1] (by decide) rfl⟩, hS.F ht⟩) hS.2.2 dX3_readNumber_102
      · have fc_14 : i_8.toInt ≠ rp.toInt := zf_ne c_14 rfl rfl
        refine lv_iload hx hb dX3_readNumber_85 (lv_at hl 0 rfl) ?_
        refine lv_iload_n hx hb dX3_readNumber_87 rfl (lv_at hl 3 rfl) ?_
        refine lv_iload_n hx hb dX3_readNumber_88 rfl (lv_at hl 4 rfl) ?_
        refine zc_SN (As := [.int v_1, .int lo, .int hi]) (rest := []) ⟨hx, hb, hml, hown, hts⟩ (c_within l D cI cJ cZ cP cS po (v_1) (lo) (hi) ) ⟨(va_cnB 3 hts gX3_readNumber_X7_within_n109 rfl rfl rfl (hN.1 (RX3, 109, yX7_within) (List.mem_of_getElem? (i := 8) rfl)) (hts _ (List.mem_of_getElem? (i := 10) rfl)) dh_X7_within ⟨Nat.le_of_ble_eq_true rfl, Nat.le_of_ble_eq_true rfl⟩), (hts _ (List.mem_of_getElem? (i := 9) rfl)), trivial⟩ hK hN (hZ.kept hS) rfl hl.1 rfl (Nat.le_of_ble_eq_true rfl) dX3_readNumber_89 ⟨Nat.le_of_ble_eq_true rfl, Nat.le_of_ble_eq_true rfl⟩ (fun r_15 hr_15 => ?_)
        rcases hr_15 with ⟨rfl, g_16⟩ | ⟨rfl, g_17, g_18⟩ | ⟨rfl, g_19, g_20⟩
        · refine lv_if_ne (tgt := 100) hx hb dX3_readNumber_92 (by decide) (fun c_21 => ?_) (fun c_21 => ?_)
          · exact absurd c_21 (by decide)
          · refine lv_aload_n hx hb dX3_readNumber_95 rfl (lv_at hl 2 rfl) ?_
            refine lv_iload_n hx hb dX3_readNumber_96 rfl (lv_at hl 1 rfl) ?_
            refine va_put (D := D) (ci := 3) (v := .int rp) (ty := .int) (C := RX3) (T := TX3) (N := 8) hx hb hts hi_X3_readNumber_3 tyX3 tyX3_ok nmX3 hown hK hP hD hS 0 rfl rfl 5 (by decide) (hts (.fieldLink RX3 28 "TheLiningsInIt$Reader" "fault" "I") (List.mem_of_getElem? (i := 4) rfl)) (fun _ h9 => h9) rfl (tyX3_ok 5 (Nat.le_of_ble_eq_true rfl)) rfl rfl (Nat.le_of_ble_eq_true rfl) dX3_readNumber_97 (fun H locs hP hD hS => ?_)
            have h9R := zRe (ws' := [(rd, .inr (3, [.ref ri, .ref rl, .int rz, .int rc, .int i_8, .int rp, .int rt, .int ru])), (rl, .inl (cI, 160, .inl fl))]) hP hD rfl
            clear hP hD
            obtain ⟨hP, hD⟩ := h9R
            refine lv_iload hx hb dX3_readNumber_100 (lv_at hl 0 rfl) ?_
            exact W.iret (v := v_1) hx hb hr (fun t ht hW => ⟨⟨v_1, (i_8, rp), rfl, ⟨(show 0 ≤ i_8.toInt ∧ i_8.toInt ≤ 160 from ⟨by omega, by omega⟩), (show (-1) ≤ rp.toInt ∧ rp.toInt ≤ 160 from ⟨by omega, hy5⟩), (show i_8.toInt ≤ rz.toInt from by omega), (show i_8.toInt = zNe fl rz.toInt rp.toInt from by first | exact (zNe_eq (by omega) (by omega) hvi_8_2 (Or.inr (fun z => by (have z1 := z.1; omega)))).symm | exact (zNe_eq (by omega) (by omega) hvi_8_2 (Or.inl (by omega))).symm), (show (v_1 : Int32).toInt = zNv fl rp.toInt i_8.toInt from by assumption), (show ((rp.toInt = rp.toInt ∧ (i_8.toInt = rp.toInt ∨ (v_1 : Int32).toInt < lo.toInt ∨ hi.toInt < (v_1 : Int32).toInt)) ∨ (rp.toInt = rf.toInt ∧ i_8.toInt ≠ rp.toInt ∧ lo.toInt ≤ (v_1 : Int32).toInt ∧ (v_1 : Int32).toInt ≤ hi.toInt)) from by omega), ⟨by omega, by omega⟩⟩, zRet ht hP hD [0, 1] (by decide) rfl⟩, hS.F ht⟩) hS.2.2 dX3_readNumber_102
        · refine lv_if_ne (tgt := 100) hx hb dX3_readNumber_92 (by decide) (fun c_22 => ?_) (fun c_22 => ?_)
          · exact absurd c_22 (by decide)
          · refine lv_aload_n hx hb dX3_readNumber_95 rfl (lv_at hl 2 rfl) ?_
            refine lv_iload_n hx hb dX3_readNumber_96 rfl (lv_at hl 1 rfl) ?_
            refine va_put (D := D) (ci := 3) (v := .int rp) (ty := .int) (C := RX3) (T := TX3) (N := 8) hx hb hts hi_X3_readNumber_3 tyX3 tyX3_ok nmX3 hown hK hP hD hS 0 rfl rfl 5 (by decide) (hts (.fieldLink RX3 28 "TheLiningsInIt$Reader" "fault" "I") (List.mem_of_getElem? (i := 4) rfl)) (fun _ h9 => h9) rfl (tyX3_ok 5 (Nat.le_of_ble_eq_true rfl)) rfl rfl (Nat.le_of_ble_eq_true rfl) dX3_readNumber_97 (fun H locs hP hD hS => ?_)
            have h9R := zRe (ws' := [(rd, .inr (3, [.ref ri, .ref rl, .int rz, .int rc, .int i_8, .int rp, .int rt, .int ru])), (rl, .inl (cI, 160, .inl fl))]) hP hD rfl
            clear hP hD
            obtain ⟨hP, hD⟩ := h9R
            refine lv_iload hx hb dX3_readNumber_100 (lv_at hl 0 rfl) ?_
            exact W.iret (v := v_1) hx hb hr (fun t ht hW => ⟨⟨v_1, (i_8, rp), rfl, ⟨(show 0 ≤ i_8.toInt ∧ i_8.toInt ≤ 160 from ⟨by omega, by omega⟩), (show (-1) ≤ rp.toInt ∧ rp.toInt ≤ 160 from ⟨by omega, hy5⟩), (show i_8.toInt ≤ rz.toInt from by omega), (show i_8.toInt = zNe fl rz.toInt rp.toInt from by first | exact (zNe_eq (by omega) (by omega) hvi_8_2 (Or.inr (fun z => by (have z1 := z.1; omega)))).symm | exact (zNe_eq (by omega) (by omega) hvi_8_2 (Or.inl (by omega))).symm), (show (v_1 : Int32).toInt = zNv fl rp.toInt i_8.toInt from by assumption), (show ((rp.toInt = rp.toInt ∧ (i_8.toInt = rp.toInt ∨ (v_1 : Int32).toInt < lo.toInt ∨ hi.toInt < (v_1 : Int32).toInt)) ∨ (rp.toInt = rf.toInt ∧ i_8.toInt ≠ rp.toInt ∧ lo.toInt ≤ (v_1 : Int32).toInt ∧ (v_1 : Int32).toInt ≤ hi.toInt)) from by omega), ⟨by omega, by omega⟩⟩, zRet ht hP hD [0, 1] (by decide) rfl⟩, hS.F ht⟩) hS.2.2 dX3_readNumber_102
        · refine lv_if_ne (tgt := 100) hx hb dX3_readNumber_92 (by decide) (fun c_23 => ?_) (fun c_23 => ?_)
          · refine lv_iload hx hb dX3_readNumber_100 (lv_at hl 0 rfl) ?_
            exact W.iret (v := v_1) hx hb hr (fun t ht hW => ⟨⟨v_1, (i_8, rf), rfl, ⟨(show 0 ≤ i_8.toInt ∧ i_8.toInt ≤ 160 from ⟨by omega, by omega⟩), (show (-1) ≤ rf.toInt ∧ rf.toInt ≤ 160 from ⟨hy7, hy8⟩), (show i_8.toInt ≤ rz.toInt from by omega), (show i_8.toInt = zNe fl rz.toInt rp.toInt from by first | exact (zNe_eq (by omega) (by omega) hvi_8_2 (Or.inr (fun z => by (have z1 := z.1; omega)))).symm | exact (zNe_eq (by omega) (by omega) hvi_8_2 (Or.inl (by omega))).symm), (show (v_1 : Int32).toInt = zNv fl rp.toInt i_8.toInt from by assumption), (show ((rf.toInt = rp.toInt ∧ (i_8.toInt = rp.toInt ∨ (v_1 : Int32).toInt < lo.toInt ∨ hi.toInt < (v_1 : Int32).toInt)) ∨ (rf.toInt = rf.toInt ∧ i_8.toInt ≠ rp.toInt ∧ lo.toInt ≤ (v_1 : Int32).toInt ∧ (v_1 : Int32).toInt ≤ hi.toInt)) from by omega), ⟨by omega, by omega⟩⟩, zRet ht hP hD [0, 1] (by decide) rfl⟩, hS.F ht⟩) hS.2.2 dX3_readNumber_102
          · exact absurd c_23 (by decide)
    · have fc_13 : i_8.toInt < rz.toInt := zf_nle c_13 rfl rfl
      refine lv_aload_n hx hb dX3_readNumber_19 rfl (lv_at hl 2 rfl) ?_
      refine va_get (D := D) (ci := 3) (v := .int i_8) (C := RX3) (T := TX3) (N := 8) hx hb hts hi_X3_readNumber_3 hown hK hP 0 rfl rfl 4 (by decide) (hts (.fieldLink RX3 25 "TheLiningsInIt$Reader" "place" "I") (List.mem_of_getElem? (i := 1) rfl)) (fun _ h9 => h9) rfl dX3_readNumber_20 ?_
      refine lv_iload_n hx hb dX3_readNumber_23 rfl (lv_at hl 1 rfl) ?_
      refine lv_iconst (v := 3) hx hb dX3_readNumber_24 (by decide) ?_
      refine lv_iadd hx hb dX3_readNumber_25 ?_
      refine lv_topi (fun x_24 ex_24 => ?_)
      have qx_24 : x_24.toInt = rp.toInt + 3 := by rw [ex_24]; exact zf_add rfl (by decide) (by omega) (by omega)
      refine lv_icmp_ge (tgt := 77) hx hb dX3_readNumber_26 (by decide) (fun c_25 => ?_) (fun c_25 => ?_)
      · have fc_25 : x_24.toInt ≤ i_8.toInt := zf_le c_25 rfl rfl
        refine lv_aload_n hx hb dX3_readNumber_77 rfl (lv_at hl 2 rfl) ?_
        refine va_get (D := D) (ci := 3) (v := .int i_8) (C := RX3) (T := TX3) (N := 8) hx hb hts hi_X3_readNumber_3 hown hK hP 0 rfl rfl 4 (by decide) (hts (.fieldLink RX3 25 "TheLiningsInIt$Reader" "place" "I") (List.mem_of_getElem? (i := 1) rfl)) (fun _ h9 => h9) rfl dX3_readNumber_78 ?_
        refine lv_iload_n hx hb dX3_readNumber_81 rfl (lv_at hl 1 rfl) ?_
        refine lv_icmp_eq (tgt := 95) hx hb dX3_readNumber_82 (by decide) (fun c_26 => ?_) (fun c_26 => ?_)
        · have fc_26 : i_8.toInt = rp.toInt := zf_eq c_26 rfl rfl
          refine lv_aload_n hx hb dX3_readNumber_95 rfl (lv_at hl 2 rfl) ?_
          refine lv_iload_n hx hb dX3_readNumber_96 rfl (lv_at hl 1 rfl) ?_
          refine va_put (D := D) (ci := 3) (v := .int rp) (ty := .int) (C := RX3) (T := TX3) (N := 8) hx hb hts hi_X3_readNumber_3 tyX3 tyX3_ok nmX3 hown hK hP hD hS 0 rfl rfl 5 (by decide) (hts (.fieldLink RX3 28 "TheLiningsInIt$Reader" "fault" "I") (List.mem_of_getElem? (i := 4) rfl)) (fun _ h9 => h9) rfl (tyX3_ok 5 (Nat.le_of_ble_eq_true rfl)) rfl rfl (Nat.le_of_ble_eq_true rfl) dX3_readNumber_97 (fun H locs hP hD hS => ?_)
          have h9R := zRe (ws' := [(rd, .inr (3, [.ref ri, .ref rl, .int rz, .int rc, .int i_8, .int rp, .int rt, .int ru])), (rl, .inl (cI, 160, .inl fl))]) hP hD rfl
          clear hP hD
          obtain ⟨hP, hD⟩ := h9R
          refine lv_iload hx hb dX3_readNumber_100 (lv_at hl 0 rfl) ?_
          exact W.iret (v := v_1) hx hb hr (fun t ht hW => ⟨⟨v_1, (i_8, rp), rfl, ⟨(show 0 ≤ i_8.toInt ∧ i_8.toInt ≤ 160 from ⟨by omega, by omega⟩), (show (-1) ≤ rp.toInt ∧ rp.toInt ≤ 160 from ⟨by omega, hy5⟩), (show i_8.toInt ≤ rz.toInt from by omega), (show i_8.toInt = zNe fl rz.toInt rp.toInt from by first | exact (zNe_eq (by omega) (by omega) hvi_8_2 (Or.inr (fun z => by (have z1 := z.1; omega)))).symm | exact (zNe_eq (by omega) (by omega) hvi_8_2 (Or.inl (by omega))).symm), (show (v_1 : Int32).toInt = zNv fl rp.toInt i_8.toInt from by assumption), (show ((rp.toInt = rp.toInt ∧ (i_8.toInt = rp.toInt ∨ (v_1 : Int32).toInt < lo.toInt ∨ hi.toInt < (v_1 : Int32).toInt)) ∨ (rp.toInt = rf.toInt ∧ i_8.toInt ≠ rp.toInt ∧ lo.toInt ≤ (v_1 : Int32).toInt ∧ (v_1 : Int32).toInt ≤ hi.toInt)) from by omega), ⟨by omega, by omega⟩⟩, zRet ht hP hD [0, 1] (by decide) rfl⟩, hS.F ht⟩) hS.2.2 dX3_readNumber_102
        · have fc_26 : i_8.toInt ≠ rp.toInt := zf_ne c_26 rfl rfl
          refine lv_iload hx hb dX3_readNumber_85 (lv_at hl 0 rfl) ?_
          refine lv_iload_n hx hb dX3_readNumber_87 rfl (lv_at hl 3 rfl) ?_
          refine lv_iload_n hx hb dX3_readNumber_88 rfl (lv_at hl 4 rfl) ?_
          refine zc_SN (As := [.int v_1, .int lo, .int hi]) (rest := []) ⟨hx, hb, hml, hown, hts⟩ (c_within l D cI cJ cZ cP cS po (v_1) (lo) (hi) ) ⟨(va_cnB 3 hts gX3_readNumber_X7_within_n109 rfl rfl rfl (hN.1 (RX3, 109, yX7_within) (List.mem_of_getElem? (i := 8) rfl)) (hts _ (List.mem_of_getElem? (i := 10) rfl)) dh_X7_within ⟨Nat.le_of_ble_eq_true rfl, Nat.le_of_ble_eq_true rfl⟩), (hts _ (List.mem_of_getElem? (i := 9) rfl)), trivial⟩ hK hN (hZ.kept hS) rfl hl.1 rfl (Nat.le_of_ble_eq_true rfl) dX3_readNumber_89 ⟨Nat.le_of_ble_eq_true rfl, Nat.le_of_ble_eq_true rfl⟩ (fun r_27 hr_27 => ?_)
          rcases hr_27 with ⟨rfl, g_28⟩ | ⟨rfl, g_29, g_30⟩ | ⟨rfl, g_31, g_32⟩
          · refine lv_if_ne (tgt := 100) hx hb dX3_readNumber_92 (by decide) (fun c_33 => ?_) (fun c_33 => ?_)
            · exact absurd c_33 (by decide)
            · refine lv_aload_n hx hb dX3_readNumber_95 rfl (lv_at hl 2 rfl) ?_
              refine lv_iload_n hx hb dX3_readNumber_96 rfl (lv_at hl 1 rfl) ?_
              refine va_put (D := D) (ci := 3) (v := .int rp) (ty := .int) (C := RX3) (T := TX3) (N := 8) hx hb hts hi_X3_readNumber_3 tyX3 tyX3_ok nmX3 hown hK hP hD hS 0 rfl rfl 5 (by decide) (hts (.fieldLink RX3 28 "TheLiningsInIt$Reader" "fault" "I") (List.mem_of_getElem? (i := 4) rfl)) (fun _ h9 => h9) rfl (tyX3_ok 5 (Nat.le_of_ble_eq_true rfl)) rfl rfl (Nat.le_of_ble_eq_true rfl) dX3_readNumber_97 (fun H locs hP hD hS => ?_)
              have h9R := zRe (ws' := [(rd, .inr (3, [.ref ri, .ref rl, .int rz, .int rc, .int i_8, .int rp, .int rt, .int ru])), (rl, .inl (cI, 160, .inl fl))]) hP hD rfl
              clear hP hD
              obtain ⟨hP, hD⟩ := h9R
              refine lv_iload hx hb dX3_readNumber_100 (lv_at hl 0 rfl) ?_
              exact W.iret (v := v_1) hx hb hr (fun t ht hW => ⟨⟨v_1, (i_8, rp), rfl, ⟨(show 0 ≤ i_8.toInt ∧ i_8.toInt ≤ 160 from ⟨by omega, by omega⟩), (show (-1) ≤ rp.toInt ∧ rp.toInt ≤ 160 from ⟨by omega, hy5⟩), (show i_8.toInt ≤ rz.toInt from by omega), (show i_8.toInt = zNe fl rz.toInt rp.toInt from by first | exact (zNe_eq (by omega) (by omega) hvi_8_2 (Or.inr (fun z => by (have z1 := z.1; omega)))).symm | exact (zNe_eq (by omega) (by omega) hvi_8_2 (Or.inl (by omega))).symm), (show (v_1 : Int32).toInt = zNv fl rp.toInt i_8.toInt from by assumption), (show ((rp.toInt = rp.toInt ∧ (i_8.toInt = rp.toInt ∨ (v_1 : Int32).toInt < lo.toInt ∨ hi.toInt < (v_1 : Int32).toInt)) ∨ (rp.toInt = rf.toInt ∧ i_8.toInt ≠ rp.toInt ∧ lo.toInt ≤ (v_1 : Int32).toInt ∧ (v_1 : Int32).toInt ≤ hi.toInt)) from by omega), ⟨by omega, by omega⟩⟩, zRet ht hP hD [0, 1] (by decide) rfl⟩, hS.F ht⟩) hS.2.2 dX3_readNumber_102
          · refine lv_if_ne (tgt := 100) hx hb dX3_readNumber_92 (by decide) (fun c_34 => ?_) (fun c_34 => ?_)
            · exact absurd c_34 (by decide)
            · refine lv_aload_n hx hb dX3_readNumber_95 rfl (lv_at hl 2 rfl) ?_
              refine lv_iload_n hx hb dX3_readNumber_96 rfl (lv_at hl 1 rfl) ?_
              refine va_put (D := D) (ci := 3) (v := .int rp) (ty := .int) (C := RX3) (T := TX3) (N := 8) hx hb hts hi_X3_readNumber_3 tyX3 tyX3_ok nmX3 hown hK hP hD hS 0 rfl rfl 5 (by decide) (hts (.fieldLink RX3 28 "TheLiningsInIt$Reader" "fault" "I") (List.mem_of_getElem? (i := 4) rfl)) (fun _ h9 => h9) rfl (tyX3_ok 5 (Nat.le_of_ble_eq_true rfl)) rfl rfl (Nat.le_of_ble_eq_true rfl) dX3_readNumber_97 (fun H locs hP hD hS => ?_)
              have h9R := zRe (ws' := [(rd, .inr (3, [.ref ri, .ref rl, .int rz, .int rc, .int i_8, .int rp, .int rt, .int ru])), (rl, .inl (cI, 160, .inl fl))]) hP hD rfl
              clear hP hD
              obtain ⟨hP, hD⟩ := h9R
              refine lv_iload hx hb dX3_readNumber_100 (lv_at hl 0 rfl) ?_
              exact W.iret (v := v_1) hx hb hr (fun t ht hW => ⟨⟨v_1, (i_8, rp), rfl, ⟨(show 0 ≤ i_8.toInt ∧ i_8.toInt ≤ 160 from ⟨by omega, by omega⟩), (show (-1) ≤ rp.toInt ∧ rp.toInt ≤ 160 from ⟨by omega, hy5⟩), (show i_8.toInt ≤ rz.toInt from by omega), (show i_8.toInt = zNe fl rz.toInt rp.toInt from by first | exact (zNe_eq (by omega) (by omega) hvi_8_2 (Or.inr (fun z => by (have z1 := z.1; omega)))).symm | exact (zNe_eq (by omega) (by omega) hvi_8_2 (Or.inl (by omega))).symm), (show (v_1 : Int32).toInt = zNv fl rp.toInt i_8.toInt from by assumption), (show ((rp.toInt = rp.toInt ∧ (i_8.toInt = rp.toInt ∨ (v_1 : Int32).toInt < lo.toInt ∨ hi.toInt < (v_1 : Int32).toInt)) ∨ (rp.toInt = rf.toInt ∧ i_8.toInt ≠ rp.toInt ∧ lo.toInt ≤ (v_1 : Int32).toInt ∧ (v_1 : Int32).toInt ≤ hi.toInt)) from by omega), ⟨by omega, by omega⟩⟩, zRet ht hP hD [0, 1] (by decide) rfl⟩, hS.F ht⟩) hS.2.2 dX3_readNumber_102
          · refine lv_if_ne (tgt := 100) hx hb dX3_readNumber_92 (by decide) (fun c_35 => ?_) (fun c_35 => ?_)
            · refine lv_iload hx hb dX3_readNumber_100 (lv_at hl 0 rfl) ?_
              exact W.iret (v := v_1) hx hb hr (fun t ht hW => ⟨⟨v_1, (i_8, rf), rfl, ⟨(show 0 ≤ i_8.toInt ∧ i_8.toInt ≤ 160 from ⟨by omega, by omega⟩), (show (-1) ≤ rf.toInt ∧ rf.toInt ≤ 160 from ⟨hy7, hy8⟩), (show i_8.toInt ≤ rz.toInt from by omega), (show i_8.toInt = zNe fl rz.toInt rp.toInt from by first | exact (zNe_eq (by omega) (by omega) hvi_8_2 (Or.inr (fun z => by (have z1 := z.1; omega)))).symm | exact (zNe_eq (by omega) (by omega) hvi_8_2 (Or.inl (by omega))).symm), (show (v_1 : Int32).toInt = zNv fl rp.toInt i_8.toInt from by assumption), (show ((rf.toInt = rp.toInt ∧ (i_8.toInt = rp.toInt ∨ (v_1 : Int32).toInt < lo.toInt ∨ hi.toInt < (v_1 : Int32).toInt)) ∨ (rf.toInt = rf.toInt ∧ i_8.toInt ≠ rp.toInt ∧ lo.toInt ≤ (v_1 : Int32).toInt ∧ (v_1 : Int32).toInt ≤ hi.toInt)) from by omega), ⟨by omega, by omega⟩⟩, zRet ht hP hD [0, 1] (by decide) rfl⟩, hS.F ht⟩) hS.2.2 dX3_readNumber_102
            · exact absurd c_35 (by decide)
      · have fc_25 : i_8.toInt < x_24.toInt := zf_nle c_25 rfl rfl
        refine lv_aload_n hx hb dX3_readNumber_29 rfl (lv_at hl 2 rfl) ?_
        refine va_get (D := D) (ci := 3) (v := .ref rl) (C := RX3) (T := TX3) (N := 8) hx hb hts hi_X3_readNumber_3 hown hK hP 0 rfl rfl 1 (by decide) (hts (.fieldLink RX3 15 "TheLiningsInIt$Reader" "letters" "[I") (List.mem_of_getElem? (i := 3) rfl)) (fun _ h9 => h9) rfl dX3_readNumber_30 ?_
        refine lv_aload_n hx hb dX3_readNumber_33 rfl (lv_at hl 2 rfl) ?_
        refine va_get (D := D) (ci := 3) (v := .int i_8) (C := RX3) (T := TX3) (N := 8) hx hb hts hi_X3_readNumber_3 hown hK hP 0 rfl rfl 4 (by decide) (hts (.fieldLink RX3 25 "TheLiningsInIt$Reader" "place" "I") (List.mem_of_getElem? (i := 1) rfl)) (fun _ h9 => h9) rfl dX3_readNumber_34 ?_
        refine va_iald hx hb hK hP 1 0 rfl rfl (zf_in (by omega) (by omega)) dX3_readNumber_37 ?_
        refine lv_topi (fun x_36 ex_36 => ?_)
        refine zc_S (As := [.int x_36]) (rest := []) ⟨hx, hb, hml, hown, hts⟩ (c_R_isDigit l D cI cJ cZ cP cS po (x_36) ) (va_cwS 1 hts gX3_readNumber_X3_isDigit rfl rfl rfl dh_X3_isDigit ⟨Nat.le_of_ble_eq_true rfl, Nat.le_of_ble_eq_true rfl⟩) hK hN (hZ.kept hS) rfl hl.1 rfl (Nat.le_of_ble_eq_true rfl) dX3_readNumber_38 ⟨Nat.le_of_ble_eq_true rfl, Nat.le_of_ble_eq_true rfl⟩ (fun r_37 hr_37 => ?_)
        rcases hr_37 with ⟨rfl, g_38⟩ | ⟨rfl, g_39, g_40⟩ | ⟨rfl, g_41, g_42⟩
        · refine lv_if_eq (tgt := 77) hx hb dX3_readNumber_41 (by decide) (fun c_43 => ?_) (fun c_43 => ?_)
          · refine lv_aload_n hx hb dX3_readNumber_77 rfl (lv_at hl 2 rfl) ?_
            refine va_get (D := D) (ci := 3) (v := .int i_8) (C := RX3) (T := TX3) (N := 8) hx hb hts hi_X3_readNumber_3 hown hK hP 0 rfl rfl 4 (by decide) (hts (.fieldLink RX3 25 "TheLiningsInIt$Reader" "place" "I") (List.mem_of_getElem? (i := 1) rfl)) (fun _ h9 => h9) rfl dX3_readNumber_78 ?_
            refine lv_iload_n hx hb dX3_readNumber_81 rfl (lv_at hl 1 rfl) ?_
            refine lv_icmp_eq (tgt := 95) hx hb dX3_readNumber_82 (by decide) (fun c_44 => ?_) (fun c_44 => ?_)
            · have fc_44 : i_8.toInt = rp.toInt := zf_eq c_44 rfl rfl
              refine lv_aload_n hx hb dX3_readNumber_95 rfl (lv_at hl 2 rfl) ?_
              refine lv_iload_n hx hb dX3_readNumber_96 rfl (lv_at hl 1 rfl) ?_
              refine va_put (D := D) (ci := 3) (v := .int rp) (ty := .int) (C := RX3) (T := TX3) (N := 8) hx hb hts hi_X3_readNumber_3 tyX3 tyX3_ok nmX3 hown hK hP hD hS 0 rfl rfl 5 (by decide) (hts (.fieldLink RX3 28 "TheLiningsInIt$Reader" "fault" "I") (List.mem_of_getElem? (i := 4) rfl)) (fun _ h9 => h9) rfl (tyX3_ok 5 (Nat.le_of_ble_eq_true rfl)) rfl rfl (Nat.le_of_ble_eq_true rfl) dX3_readNumber_97 (fun H locs hP hD hS => ?_)
              have h9R := zRe (ws' := [(rd, .inr (3, [.ref ri, .ref rl, .int rz, .int rc, .int i_8, .int rp, .int rt, .int ru])), (rl, .inl (cI, 160, .inl fl))]) hP hD rfl
              clear hP hD
              obtain ⟨hP, hD⟩ := h9R
              refine lv_iload hx hb dX3_readNumber_100 (lv_at hl 0 rfl) ?_
              exact W.iret (v := v_1) hx hb hr (fun t ht hW => ⟨⟨v_1, (i_8, rp), rfl, ⟨(show 0 ≤ i_8.toInt ∧ i_8.toInt ≤ 160 from ⟨by omega, by omega⟩), (show (-1) ≤ rp.toInt ∧ rp.toInt ≤ 160 from ⟨by omega, hy5⟩), (show i_8.toInt ≤ rz.toInt from by omega), (show i_8.toInt = zNe fl rz.toInt rp.toInt from by first | exact (zNe_eq (by omega) (by omega) hvi_8_2 (Or.inr (fun z => by (have z1 := z.1; omega)))).symm | exact (zNe_eq (by omega) (by omega) hvi_8_2 (Or.inl (by omega))).symm | exact (zNe_eq (by omega) (by omega) hvi_8_2 (Or.inr (fun z => by (have h8 : (fl i_8.toInt.toNat).toInt = x_36.toInt := (by rw [ex_36]; rfl); have z1 := z.2.1; have z2 := z.2.2; omega)))).symm), (show (v_1 : Int32).toInt = zNv fl rp.toInt i_8.toInt from by assumption), (show ((rp.toInt = rp.toInt ∧ (i_8.toInt = rp.toInt ∨ (v_1 : Int32).toInt < lo.toInt ∨ hi.toInt < (v_1 : Int32).toInt)) ∨ (rp.toInt = rf.toInt ∧ i_8.toInt ≠ rp.toInt ∧ lo.toInt ≤ (v_1 : Int32).toInt ∧ (v_1 : Int32).toInt ≤ hi.toInt)) from by omega), ⟨by omega, by omega⟩⟩, zRet ht hP hD [0, 1] (by decide) rfl⟩, hS.F ht⟩) hS.2.2 dX3_readNumber_102
            · have fc_44 : i_8.toInt ≠ rp.toInt := zf_ne c_44 rfl rfl
              refine lv_iload hx hb dX3_readNumber_85 (lv_at hl 0 rfl) ?_
              refine lv_iload_n hx hb dX3_readNumber_87 rfl (lv_at hl 3 rfl) ?_
              refine lv_iload_n hx hb dX3_readNumber_88 rfl (lv_at hl 4 rfl) ?_
              refine zc_SN (As := [.int v_1, .int lo, .int hi]) (rest := []) ⟨hx, hb, hml, hown, hts⟩ (c_within l D cI cJ cZ cP cS po (v_1) (lo) (hi) ) ⟨(va_cnB 3 hts gX3_readNumber_X7_within_n109 rfl rfl rfl (hN.1 (RX3, 109, yX7_within) (List.mem_of_getElem? (i := 8) rfl)) (hts _ (List.mem_of_getElem? (i := 10) rfl)) dh_X7_within ⟨Nat.le_of_ble_eq_true rfl, Nat.le_of_ble_eq_true rfl⟩), (hts _ (List.mem_of_getElem? (i := 9) rfl)), trivial⟩ hK hN (hZ.kept hS) rfl hl.1 rfl (Nat.le_of_ble_eq_true rfl) dX3_readNumber_89 ⟨Nat.le_of_ble_eq_true rfl, Nat.le_of_ble_eq_true rfl⟩ (fun r_45 hr_45 => ?_)
              rcases hr_45 with ⟨rfl, g_46⟩ | ⟨rfl, g_47, g_48⟩ | ⟨rfl, g_49, g_50⟩
              · refine lv_if_ne (tgt := 100) hx hb dX3_readNumber_92 (by decide) (fun c_51 => ?_) (fun c_51 => ?_)
                · exact absurd c_51 (by decide)
                · refine lv_aload_n hx hb dX3_readNumber_95 rfl (lv_at hl 2 rfl) ?_
                  refine lv_iload_n hx hb dX3_readNumber_96 rfl (lv_at hl 1 rfl) ?_
                  refine va_put (D := D) (ci := 3) (v := .int rp) (ty := .int) (C := RX3) (T := TX3) (N := 8) hx hb hts hi_X3_readNumber_3 tyX3 tyX3_ok nmX3 hown hK hP hD hS 0 rfl rfl 5 (by decide) (hts (.fieldLink RX3 28 "TheLiningsInIt$Reader" "fault" "I") (List.mem_of_getElem? (i := 4) rfl)) (fun _ h9 => h9) rfl (tyX3_ok 5 (Nat.le_of_ble_eq_true rfl)) rfl rfl (Nat.le_of_ble_eq_true rfl) dX3_readNumber_97 (fun H locs hP hD hS => ?_)
                  have h9R := zRe (ws' := [(rd, .inr (3, [.ref ri, .ref rl, .int rz, .int rc, .int i_8, .int rp, .int rt, .int ru])), (rl, .inl (cI, 160, .inl fl))]) hP hD rfl
                  clear hP hD
                  obtain ⟨hP, hD⟩ := h9R
                  refine lv_iload hx hb dX3_readNumber_100 (lv_at hl 0 rfl) ?_
                  exact W.iret (v := v_1) hx hb hr (fun t ht hW => ⟨⟨v_1, (i_8, rp), rfl, ⟨(show 0 ≤ i_8.toInt ∧ i_8.toInt ≤ 160 from ⟨by omega, by omega⟩), (show (-1) ≤ rp.toInt ∧ rp.toInt ≤ 160 from ⟨by omega, hy5⟩), (show i_8.toInt ≤ rz.toInt from by omega), (show i_8.toInt = zNe fl rz.toInt rp.toInt from by first | exact (zNe_eq (by omega) (by omega) hvi_8_2 (Or.inr (fun z => by (have z1 := z.1; omega)))).symm | exact (zNe_eq (by omega) (by omega) hvi_8_2 (Or.inl (by omega))).symm | exact (zNe_eq (by omega) (by omega) hvi_8_2 (Or.inr (fun z => by (have h8 : (fl i_8.toInt.toNat).toInt = x_36.toInt := (by rw [ex_36]; rfl); have z1 := z.2.1; have z2 := z.2.2; omega)))).symm), (show (v_1 : Int32).toInt = zNv fl rp.toInt i_8.toInt from by assumption), (show ((rp.toInt = rp.toInt ∧ (i_8.toInt = rp.toInt ∨ (v_1 : Int32).toInt < lo.toInt ∨ hi.toInt < (v_1 : Int32).toInt)) ∨ (rp.toInt = rf.toInt ∧ i_8.toInt ≠ rp.toInt ∧ lo.toInt ≤ (v_1 : Int32).toInt ∧ (v_1 : Int32).toInt ≤ hi.toInt)) from by omega), ⟨by omega, by omega⟩⟩, zRet ht hP hD [0, 1] (by decide) rfl⟩, hS.F ht⟩) hS.2.2 dX3_readNumber_102
              · refine lv_if_ne (tgt := 100) hx hb dX3_readNumber_92 (by decide) (fun c_52 => ?_) (fun c_52 => ?_)
                · exact absurd c_52 (by decide)
                · refine lv_aload_n hx hb dX3_readNumber_95 rfl (lv_at hl 2 rfl) ?_
                  refine lv_iload_n hx hb dX3_readNumber_96 rfl (lv_at hl 1 rfl) ?_
                  refine va_put (D := D) (ci := 3) (v := .int rp) (ty := .int) (C := RX3) (T := TX3) (N := 8) hx hb hts hi_X3_readNumber_3 tyX3 tyX3_ok nmX3 hown hK hP hD hS 0 rfl rfl 5 (by decide) (hts (.fieldLink RX3 28 "TheLiningsInIt$Reader" "fault" "I") (List.mem_of_getElem? (i := 4) rfl)) (fun _ h9 => h9) rfl (tyX3_ok 5 (Nat.le_of_ble_eq_true rfl)) rfl rfl (Nat.le_of_ble_eq_true rfl) dX3_readNumber_97 (fun H locs hP hD hS => ?_)
                  have h9R := zRe (ws' := [(rd, .inr (3, [.ref ri, .ref rl, .int rz, .int rc, .int i_8, .int rp, .int rt, .int ru])), (rl, .inl (cI, 160, .inl fl))]) hP hD rfl
                  clear hP hD
                  obtain ⟨hP, hD⟩ := h9R
                  refine lv_iload hx hb dX3_readNumber_100 (lv_at hl 0 rfl) ?_
                  exact W.iret (v := v_1) hx hb hr (fun t ht hW => ⟨⟨v_1, (i_8, rp), rfl, ⟨(show 0 ≤ i_8.toInt ∧ i_8.toInt ≤ 160 from ⟨by omega, by omega⟩), (show (-1) ≤ rp.toInt ∧ rp.toInt ≤ 160 from ⟨by omega, hy5⟩), (show i_8.toInt ≤ rz.toInt from by omega), (show i_8.toInt = zNe fl rz.toInt rp.toInt from by first | exact (zNe_eq (by omega) (by omega) hvi_8_2 (Or.inr (fun z => by (have z1 := z.1; omega)))).symm | exact (zNe_eq (by omega) (by omega) hvi_8_2 (Or.inl (by omega))).symm | exact (zNe_eq (by omega) (by omega) hvi_8_2 (Or.inr (fun z => by (have h8 : (fl i_8.toInt.toNat).toInt = x_36.toInt := (by rw [ex_36]; rfl); have z1 := z.2.1; have z2 := z.2.2; omega)))).symm), (show (v_1 : Int32).toInt = zNv fl rp.toInt i_8.toInt from by assumption), (show ((rp.toInt = rp.toInt ∧ (i_8.toInt = rp.toInt ∨ (v_1 : Int32).toInt < lo.toInt ∨ hi.toInt < (v_1 : Int32).toInt)) ∨ (rp.toInt = rf.toInt ∧ i_8.toInt ≠ rp.toInt ∧ lo.toInt ≤ (v_1 : Int32).toInt ∧ (v_1 : Int32).toInt ≤ hi.toInt)) from by omega), ⟨by omega, by omega⟩⟩, zRet ht hP hD [0, 1] (by decide) rfl⟩, hS.F ht⟩) hS.2.2 dX3_readNumber_102
              · refine lv_if_ne (tgt := 100) hx hb dX3_readNumber_92 (by decide) (fun c_53 => ?_) (fun c_53 => ?_)
                · refine lv_iload hx hb dX3_readNumber_100 (lv_at hl 0 rfl) ?_
                  exact W.iret (v := v_1) hx hb hr (fun t ht hW => ⟨⟨v_1, (i_8, rf), rfl, ⟨(show 0 ≤ i_8.toInt ∧ i_8.toInt ≤ 160 from ⟨by omega, by omega⟩), (show (-1) ≤ rf.toInt ∧ rf.toInt ≤ 160 from ⟨hy7, hy8⟩), (show i_8.toInt ≤ rz.toInt from by omega), (show i_8.toInt = zNe fl rz.toInt rp.toInt from by first | exact (zNe_eq (by omega) (by omega) hvi_8_2 (Or.inr (fun z => by (have z1 := z.1; omega)))).symm | exact (zNe_eq (by omega) (by omega) hvi_8_2 (Or.inl (by omega))).symm | exact (zNe_eq (by omega) (by omega) hvi_8_2 (Or.inr (fun z => by (have h8 : (fl i_8.toInt.toNat).toInt = x_36.toInt := (by rw [ex_36]; rfl); have z1 := z.2.1; have z2 := z.2.2; omega)))).symm), (show (v_1 : Int32).toInt = zNv fl rp.toInt i_8.toInt from by assumption), (show ((rf.toInt = rp.toInt ∧ (i_8.toInt = rp.toInt ∨ (v_1 : Int32).toInt < lo.toInt ∨ hi.toInt < (v_1 : Int32).toInt)) ∨ (rf.toInt = rf.toInt ∧ i_8.toInt ≠ rp.toInt ∧ lo.toInt ≤ (v_1 : Int32).toInt ∧ (v_1 : Int32).toInt ≤ hi.toInt)) from by omega), ⟨by omega, by omega⟩⟩, zRet ht hP hD [0, 1] (by decide) rfl⟩, hS.F ht⟩) hS.2.2 dX3_readNumber_102
                · exact absurd c_53 (by decide)
          · exact absurd c_43 (by decide)
        · refine lv_if_eq (tgt := 77) hx hb dX3_readNumber_41 (by decide) (fun c_54 => ?_) (fun c_54 => ?_)
          · refine lv_aload_n hx hb dX3_readNumber_77 rfl (lv_at hl 2 rfl) ?_
            refine va_get (D := D) (ci := 3) (v := .int i_8) (C := RX3) (T := TX3) (N := 8) hx hb hts hi_X3_readNumber_3 hown hK hP 0 rfl rfl 4 (by decide) (hts (.fieldLink RX3 25 "TheLiningsInIt$Reader" "place" "I") (List.mem_of_getElem? (i := 1) rfl)) (fun _ h9 => h9) rfl dX3_readNumber_78 ?_
            refine lv_iload_n hx hb dX3_readNumber_81 rfl (lv_at hl 1 rfl) ?_
            refine lv_icmp_eq (tgt := 95) hx hb dX3_readNumber_82 (by decide) (fun c_55 => ?_) (fun c_55 => ?_)
            · have fc_55 : i_8.toInt = rp.toInt := zf_eq c_55 rfl rfl
              refine lv_aload_n hx hb dX3_readNumber_95 rfl (lv_at hl 2 rfl) ?_
              refine lv_iload_n hx hb dX3_readNumber_96 rfl (lv_at hl 1 rfl) ?_
              refine va_put (D := D) (ci := 3) (v := .int rp) (ty := .int) (C := RX3) (T := TX3) (N := 8) hx hb hts hi_X3_readNumber_3 tyX3 tyX3_ok nmX3 hown hK hP hD hS 0 rfl rfl 5 (by decide) (hts (.fieldLink RX3 28 "TheLiningsInIt$Reader" "fault" "I") (List.mem_of_getElem? (i := 4) rfl)) (fun _ h9 => h9) rfl (tyX3_ok 5 (Nat.le_of_ble_eq_true rfl)) rfl rfl (Nat.le_of_ble_eq_true rfl) dX3_readNumber_97 (fun H locs hP hD hS => ?_)
              have h9R := zRe (ws' := [(rd, .inr (3, [.ref ri, .ref rl, .int rz, .int rc, .int i_8, .int rp, .int rt, .int ru])), (rl, .inl (cI, 160, .inl fl))]) hP hD rfl
              clear hP hD
              obtain ⟨hP, hD⟩ := h9R
              refine lv_iload hx hb dX3_readNumber_100 (lv_at hl 0 rfl) ?_
              exact W.iret (v := v_1) hx hb hr (fun t ht hW => ⟨⟨v_1, (i_8, rp), rfl, ⟨(show 0 ≤ i_8.toInt ∧ i_8.toInt ≤ 160 from ⟨by omega, by omega⟩), (show (-1) ≤ rp.toInt ∧ rp.toInt ≤ 160 from ⟨by omega, hy5⟩), (show i_8.toInt ≤ rz.toInt from by omega), (show i_8.toInt = zNe fl rz.toInt rp.toInt from by first | exact (zNe_eq (by omega) (by omega) hvi_8_2 (Or.inr (fun z => by (have z1 := z.1; omega)))).symm | exact (zNe_eq (by omega) (by omega) hvi_8_2 (Or.inl (by omega))).symm | exact (zNe_eq (by omega) (by omega) hvi_8_2 (Or.inr (fun z => by (have h8 : (fl i_8.toInt.toNat).toInt = x_36.toInt := (by rw [ex_36]; rfl); have z1 := z.2.1; have z2 := z.2.2; omega)))).symm), (show (v_1 : Int32).toInt = zNv fl rp.toInt i_8.toInt from by assumption), (show ((rp.toInt = rp.toInt ∧ (i_8.toInt = rp.toInt ∨ (v_1 : Int32).toInt < lo.toInt ∨ hi.toInt < (v_1 : Int32).toInt)) ∨ (rp.toInt = rf.toInt ∧ i_8.toInt ≠ rp.toInt ∧ lo.toInt ≤ (v_1 : Int32).toInt ∧ (v_1 : Int32).toInt ≤ hi.toInt)) from by omega), ⟨by omega, by omega⟩⟩, zRet ht hP hD [0, 1] (by decide) rfl⟩, hS.F ht⟩) hS.2.2 dX3_readNumber_102
            · have fc_55 : i_8.toInt ≠ rp.toInt := zf_ne c_55 rfl rfl
              refine lv_iload hx hb dX3_readNumber_85 (lv_at hl 0 rfl) ?_
              refine lv_iload_n hx hb dX3_readNumber_87 rfl (lv_at hl 3 rfl) ?_
              refine lv_iload_n hx hb dX3_readNumber_88 rfl (lv_at hl 4 rfl) ?_
              refine zc_SN (As := [.int v_1, .int lo, .int hi]) (rest := []) ⟨hx, hb, hml, hown, hts⟩ (c_within l D cI cJ cZ cP cS po (v_1) (lo) (hi) ) ⟨(va_cnB 3 hts gX3_readNumber_X7_within_n109 rfl rfl rfl (hN.1 (RX3, 109, yX7_within) (List.mem_of_getElem? (i := 8) rfl)) (hts _ (List.mem_of_getElem? (i := 10) rfl)) dh_X7_within ⟨Nat.le_of_ble_eq_true rfl, Nat.le_of_ble_eq_true rfl⟩), (hts _ (List.mem_of_getElem? (i := 9) rfl)), trivial⟩ hK hN (hZ.kept hS) rfl hl.1 rfl (Nat.le_of_ble_eq_true rfl) dX3_readNumber_89 ⟨Nat.le_of_ble_eq_true rfl, Nat.le_of_ble_eq_true rfl⟩ (fun r_56 hr_56 => ?_)
              rcases hr_56 with ⟨rfl, g_57⟩ | ⟨rfl, g_58, g_59⟩ | ⟨rfl, g_60, g_61⟩
              · refine lv_if_ne (tgt := 100) hx hb dX3_readNumber_92 (by decide) (fun c_62 => ?_) (fun c_62 => ?_)
                · exact absurd c_62 (by decide)
                · refine lv_aload_n hx hb dX3_readNumber_95 rfl (lv_at hl 2 rfl) ?_
                  refine lv_iload_n hx hb dX3_readNumber_96 rfl (lv_at hl 1 rfl) ?_
                  refine va_put (D := D) (ci := 3) (v := .int rp) (ty := .int) (C := RX3) (T := TX3) (N := 8) hx hb hts hi_X3_readNumber_3 tyX3 tyX3_ok nmX3 hown hK hP hD hS 0 rfl rfl 5 (by decide) (hts (.fieldLink RX3 28 "TheLiningsInIt$Reader" "fault" "I") (List.mem_of_getElem? (i := 4) rfl)) (fun _ h9 => h9) rfl (tyX3_ok 5 (Nat.le_of_ble_eq_true rfl)) rfl rfl (Nat.le_of_ble_eq_true rfl) dX3_readNumber_97 (fun H locs hP hD hS => ?_)
                  have h9R := zRe (ws' := [(rd, .inr (3, [.ref ri, .ref rl, .int rz, .int rc, .int i_8, .int rp, .int rt, .int ru])), (rl, .inl (cI, 160, .inl fl))]) hP hD rfl
                  clear hP hD
                  obtain ⟨hP, hD⟩ := h9R
                  refine lv_iload hx hb dX3_readNumber_100 (lv_at hl 0 rfl) ?_
                  exact W.iret (v := v_1) hx hb hr (fun t ht hW => ⟨⟨v_1, (i_8, rp), rfl, ⟨(show 0 ≤ i_8.toInt ∧ i_8.toInt ≤ 160 from ⟨by omega, by omega⟩), (show (-1) ≤ rp.toInt ∧ rp.toInt ≤ 160 from ⟨by omega, hy5⟩), (show i_8.toInt ≤ rz.toInt from by omega), (show i_8.toInt = zNe fl rz.toInt rp.toInt from by first | exact (zNe_eq (by omega) (by omega) hvi_8_2 (Or.inr (fun z => by (have z1 := z.1; omega)))).symm | exact (zNe_eq (by omega) (by omega) hvi_8_2 (Or.inl (by omega))).symm | exact (zNe_eq (by omega) (by omega) hvi_8_2 (Or.inr (fun z => by (have h8 : (fl i_8.toInt.toNat).toInt = x_36.toInt := (by rw [ex_36]; rfl); have z1 := z.2.1; have z2 := z.2.2; omega)))).symm), (show (v_1 : Int32).toInt = zNv fl rp.toInt i_8.toInt from by assumption), (show ((rp.toInt = rp.toInt ∧ (i_8.toInt = rp.toInt ∨ (v_1 : Int32).toInt < lo.toInt ∨ hi.toInt < (v_1 : Int32).toInt)) ∨ (rp.toInt = rf.toInt ∧ i_8.toInt ≠ rp.toInt ∧ lo.toInt ≤ (v_1 : Int32).toInt ∧ (v_1 : Int32).toInt ≤ hi.toInt)) from by omega), ⟨by omega, by omega⟩⟩, zRet ht hP hD [0, 1] (by decide) rfl⟩, hS.F ht⟩) hS.2.2 dX3_readNumber_102
              · refine lv_if_ne (tgt := 100) hx hb dX3_readNumber_92 (by decide) (fun c_63 => ?_) (fun c_63 => ?_)
                · exact absurd c_63 (by decide)
                · refine lv_aload_n hx hb dX3_readNumber_95 rfl (lv_at hl 2 rfl) ?_
                  refine lv_iload_n hx hb dX3_readNumber_96 rfl (lv_at hl 1 rfl) ?_
                  refine va_put (D := D) (ci := 3) (v := .int rp) (ty := .int) (C := RX3) (T := TX3) (N := 8) hx hb hts hi_X3_readNumber_3 tyX3 tyX3_ok nmX3 hown hK hP hD hS 0 rfl rfl 5 (by decide) (hts (.fieldLink RX3 28 "TheLiningsInIt$Reader" "fault" "I") (List.mem_of_getElem? (i := 4) rfl)) (fun _ h9 => h9) rfl (tyX3_ok 5 (Nat.le_of_ble_eq_true rfl)) rfl rfl (Nat.le_of_ble_eq_true rfl) dX3_readNumber_97 (fun H locs hP hD hS => ?_)
                  have h9R := zRe (ws' := [(rd, .inr (3, [.ref ri, .ref rl, .int rz, .int rc, .int i_8, .int rp, .int rt, .int ru])), (rl, .inl (cI, 160, .inl fl))]) hP hD rfl
                  clear hP hD
                  obtain ⟨hP, hD⟩ := h9R
                  refine lv_iload hx hb dX3_readNumber_100 (lv_at hl 0 rfl) ?_
                  exact W.iret (v := v_1) hx hb hr (fun t ht hW => ⟨⟨v_1, (i_8, rp), rfl, ⟨(show 0 ≤ i_8.toInt ∧ i_8.toInt ≤ 160 from ⟨by omega, by omega⟩), (show (-1) ≤ rp.toInt ∧ rp.toInt ≤ 160 from ⟨by omega, hy5⟩), (show i_8.toInt ≤ rz.toInt from by omega), (show i_8.toInt = zNe fl rz.toInt rp.toInt from by first | exact (zNe_eq (by omega) (by omega) hvi_8_2 (Or.inr (fun z => by (have z1 := z.1; omega)))).symm | exact (zNe_eq (by omega) (by omega) hvi_8_2 (Or.inl (by omega))).symm | exact (zNe_eq (by omega) (by omega) hvi_8_2 (Or.inr (fun z => by (have h8 : (fl i_8.toInt.toNat).toInt = x_36.toInt := (by rw [ex_36]; rfl); have z1 := z.2.1; have z2 := z.2.2; omega)))).symm), (show (v_1 : Int32).toInt = zNv fl rp.toInt i_8.toInt from by assumption), (show ((rp.toInt = rp.toInt ∧ (i_8.toInt = rp.toInt ∨ (v_1 : Int32).toInt < lo.toInt ∨ hi.toInt < (v_1 : Int32).toInt)) ∨ (rp.toInt = rf.toInt ∧ i_8.toInt ≠ rp.toInt ∧ lo.toInt ≤ (v_1 : Int32).toInt ∧ (v_1 : Int32).toInt ≤ hi.toInt)) from by omega), ⟨by omega, by omega⟩⟩, zRet ht hP hD [0, 1] (by decide) rfl⟩, hS.F ht⟩) hS.2.2 dX3_readNumber_102
              · refine lv_if_ne (tgt := 100) hx hb dX3_readNumber_92 (by decide) (fun c_64 => ?_) (fun c_64 => ?_)
                · refine lv_iload hx hb dX3_readNumber_100 (lv_at hl 0 rfl) ?_
                  exact W.iret (v := v_1) hx hb hr (fun t ht hW => ⟨⟨v_1, (i_8, rf), rfl, ⟨(show 0 ≤ i_8.toInt ∧ i_8.toInt ≤ 160 from ⟨by omega, by omega⟩), (show (-1) ≤ rf.toInt ∧ rf.toInt ≤ 160 from ⟨hy7, hy8⟩), (show i_8.toInt ≤ rz.toInt from by omega), (show i_8.toInt = zNe fl rz.toInt rp.toInt from by first | exact (zNe_eq (by omega) (by omega) hvi_8_2 (Or.inr (fun z => by (have z1 := z.1; omega)))).symm | exact (zNe_eq (by omega) (by omega) hvi_8_2 (Or.inl (by omega))).symm | exact (zNe_eq (by omega) (by omega) hvi_8_2 (Or.inr (fun z => by (have h8 : (fl i_8.toInt.toNat).toInt = x_36.toInt := (by rw [ex_36]; rfl); have z1 := z.2.1; have z2 := z.2.2; omega)))).symm), (show (v_1 : Int32).toInt = zNv fl rp.toInt i_8.toInt from by assumption), (show ((rf.toInt = rp.toInt ∧ (i_8.toInt = rp.toInt ∨ (v_1 : Int32).toInt < lo.toInt ∨ hi.toInt < (v_1 : Int32).toInt)) ∨ (rf.toInt = rf.toInt ∧ i_8.toInt ≠ rp.toInt ∧ lo.toInt ≤ (v_1 : Int32).toInt ∧ (v_1 : Int32).toInt ≤ hi.toInt)) from by omega), ⟨by omega, by omega⟩⟩, zRet ht hP hD [0, 1] (by decide) rfl⟩, hS.F ht⟩) hS.2.2 dX3_readNumber_102
                · exact absurd c_64 (by decide)
          · exact absurd c_54 (by decide)
        · refine lv_if_eq (tgt := 77) hx hb dX3_readNumber_41 (by decide) (fun c_65 => ?_) (fun c_65 => ?_)
          · exact absurd c_65 (by decide)
          · refine lv_iload hx hb dX3_readNumber_44 (lv_at hl 0 rfl) ?_
            refine lv_bipush (v := 10) hx hb dX3_readNumber_46 (by decide) ?_
            refine lv_imul hx hb dX3_readNumber_48 ?_
            refine lv_topi (fun x_66 ex_66 => ?_)
            have qx_66 : x_66.toInt = v_1.toInt * 10 := by rw [ex_66]; exact zf_mul rfl (by decide) (by omega) (by omega)
            refine lv_aload_n hx hb dX3_readNumber_49 rfl (lv_at hl 2 rfl) ?_
            refine va_get (D := D) (ci := 3) (v := .ref rl) (C := RX3) (T := TX3) (N := 8) hx hb hts hi_X3_readNumber_3 hown hK hP 0 rfl rfl 1 (by decide) (hts (.fieldLink RX3 15 "TheLiningsInIt$Reader" "letters" "[I") (List.mem_of_getElem? (i := 3) rfl)) (fun _ h9 => h9) rfl dX3_readNumber_50 ?_
            refine lv_aload_n hx hb dX3_readNumber_53 rfl (lv_at hl 2 rfl) ?_
            refine va_get (D := D) (ci := 3) (v := .int i_8) (C := RX3) (T := TX3) (N := 8) hx hb hts hi_X3_readNumber_3 hown hK hP 0 rfl rfl 4 (by decide) (hts (.fieldLink RX3 25 "TheLiningsInIt$Reader" "place" "I") (List.mem_of_getElem? (i := 1) rfl)) (fun _ h9 => h9) rfl dX3_readNumber_54 ?_
            refine va_iald hx hb hK hP 1 0 rfl rfl (zf_in (by omega) (by omega)) dX3_readNumber_57 ?_
            refine lv_topi (fun y_67 ey_67 => ?_)
            obtain rfl : x_36 = y_67 := ex_36.trans ey_67.symm
            refine lv_iadd hx hb dX3_readNumber_58 ?_
            refine lv_topi (fun x_68 ex_68 => ?_)
            have qx_68 : x_68.toInt = x_66.toInt + x_36.toInt := by rw [ex_68]; exact zf_add rfl rfl (by omega) (by omega)
            refine lv_bipush (v := 48) hx hb dX3_readNumber_59 (by decide) ?_
            refine lv_isub hx hb dX3_readNumber_61 ?_
            refine lv_topi (fun x_69 ex_69 => ?_)
            have qx_69 : x_69.toInt = x_68.toInt - 48 := by rw [ex_69]; exact zf_sub rfl (by decide) (by omega) (by omega)
            refine lv_istore (lv' := [(4, .int x_69), (3, .int rp), (0, .ref rd), (1, .int lo), (2, .int hi)]) hx hb dX3_readNumber_62 hl (by decide) rfl (fun ls hl => ?_)
            refine lv_aload_n hx hb dX3_readNumber_64 rfl (lv_at hl 2 rfl) ?_
            refine lv_dup hx hb dX3_readNumber_65 rfl ?_
            refine va_get (D := D) (ci := 3) (v := .int i_8) (C := RX3) (T := TX3) (N := 8) hx hb hts hi_X3_readNumber_3 hown hK hP 0 rfl rfl 4 (by decide) (hts (.fieldLink RX3 25 "TheLiningsInIt$Reader" "place" "I") (List.mem_of_getElem? (i := 1) rfl)) (fun _ h9 => h9) rfl dX3_readNumber_66 ?_
            refine lv_iconst (v := 1) hx hb dX3_readNumber_69 (by decide) ?_
            refine lv_iadd hx hb dX3_readNumber_70 ?_
            refine lv_topi (fun x_70 ex_70 => ?_)
            have qx_70 : x_70.toInt = i_8.toInt + 1 := dw_inc ex_70 fc_25
            refine va_put (D := D) (ci := 3) (v := .int x_70) (ty := .int) (C := RX3) (T := TX3) (N := 8) hx hb hts hi_X3_readNumber_3 tyX3 tyX3_ok nmX3 hown hK hP hD hS 0 rfl rfl 4 (by decide) (hts (.fieldLink RX3 25 "TheLiningsInIt$Reader" "place" "I") (List.mem_of_getElem? (i := 1) rfl)) (fun _ h9 => h9) rfl (tyX3_ok 4 (Nat.le_of_ble_eq_true rfl)) rfl rfl (Nat.le_of_ble_eq_true rfl) dX3_readNumber_71 (fun H locs hP hD hS => ?_)
            have h9R := zRe (ws' := [(rd, .inr (3, [.ref ri, .ref rl, .int rz, .int rc, .int x_70, .int rf, .int rt, .int ru])), (rl, .inl (cI, 160, .inl fl))]) hP hD rfl
            clear hP hD
            obtain ⟨hP, hD⟩ := h9R
            refine lv_goto (tgt := 8) hx hb dX3_readNumber_74 (by decide) ?_
            exact ih x_70 x_69 _ _ _ (hP.sub [0, 1] rfl) (hD.sub [0, 1] (by decide) rfl) hS (lv_sub hl [0, 1, 2, 3, 4] rfl) ⟨by omega, by omega⟩ (show rp.toInt ≤ x_70.toInt ∧ x_70.toInt ≤ rz.toInt from by exact ⟨by omega, by omega⟩) (show x_70.toInt ≤ rp.toInt + 3 from by omega) (show (∀ j : Int, rp.toInt ≤ j → j < x_70.toInt → zDg fl rz.toInt j) from by (have h8 : (fl i_8.toInt.toNat).toInt = x_36.toInt := (by rw [ex_36]; rfl); exact zAll_S (P := fun j => zDg fl rz.toInt j) hvi_8_2 ⟨by omega, by omega, by omega⟩ (by omega))) (show (x_69 : Int32).toInt = zNv fl rp.toInt x_70.toInt from by (have h8 : (fl i_8.toInt.toNat).toInt = x_36.toInt := (by rw [ex_36]; rfl); have z := zNv_S (f := fl) (p := rp.toInt) (q := i_8.toInt) (by omega) (by omega); unfold zDv at z; rw [h8] at z; rw [show x_70.toInt = i_8.toInt + 1 from by omega, z]; omega)) (show (x_70.toInt = rp.toInt → (x_69 : Int32).toInt = 0) ∧ (x_70.toInt ≤ rp.toInt + 1 → (x_69 : Int32).toInt ≤ 9) ∧ (x_70.toInt ≤ rp.toInt + 2 → (x_69 : Int32).toInt ≤ 99) from by omega) (dw_lo hloi_8 qx_70) (dw_hn hni_8 qx_70)

