set_option maxHeartbeats 4000000 in
set_option maxRecDepth 100000 in
theorem c_F_X_firstWrong (l : Launch) (D : va_G) (cI cJ cZ cP cS : ClassId) (po : zPool) (x0 xs j0 k0 w0 rd mv xr : Nat) (im lf : Int32) (fr : Nat → Int32) (j0 jp jc z0 zl zs : Nat) (cn de tr se hu sd : Int32) (fp : Nat → Option Nat) (kf af tf : Nat → Int32) (h0 e0 : Nat) (he si : Int32) (fe : Nat → Int64) (n : Int32) (hy0 : 0 ≤ im.toInt) (hy1 : im.toInt ≤ 1) (hy2 : (-1) ≤ lf.toInt) (hy3 : lf.toInt ≤ 160) (hy4 : 0 ≤ cn.toInt) (hy5 : cn.toInt ≤ 8) (hy6 : 0 ≤ de.toInt) (hy7 : de.toInt ≤ 24) (hy8 : 0 ≤ hu.toInt) (hy9 : hu.toInt ≤ 9) (hy10 : (-1) ≤ he.toInt) (hy11 : he.toInt ≤ 103) (hy12 : 0 ≤ si.toInt) (hy13 : si.toInt ≤ 160) (hjp : zJP po fp cn kf af tf) (hy15 : 0 ≤ se.toInt) (hy16 : se.toInt ≤ 300) (hy17 : 0 ≤ n.toInt) (hy18 : n.toInt ≤ 20) (hy19 : n.toInt ≤ si.toInt) : Met l yX7_firstWrong wsX7_firstWrong ({ frames := 2, cells := 0, slots := 0, locals := 44 }) (va_Pc [.ref x0, .ref h0, .int n] (zR D (zKT cI cJ cZ cP cS) po [(x0, .inr (7, [.ref xs, .ref j0, .ref k0, .ref w0, .ref rd, .ref mv, .ref xr, .int im, .int lf])), (j0, .inr (0, [.ref z0, .ref jp, .ref jc, .int cn, .int de, .int tr, .int se, .int hu, .int sd])), (jp, .inl (cP, 8, .inr (.inr (.inr (.inr fp))))), (h0, .inr (4, [.ref e0, .int he, .int si])), (e0, .inl (cJ, 160, .inr (.inl fe)))])) (vp_Si (fun r => (r.toInt = zJg kf af tf cn.toInt hu.toInt fe n.toInt.toNat 0 de.toInt se.toInt))) 0 0 (fun _ => False) := by
  refine Met.ofW (cc := cX7_firstWrong) (maxL := 8) (ret := (some .int)) (by decide) rfl ?_
  intro p e s m args below meth c s₁ B hml hv
  obtain ⟨rfl, hP, hK, hN, hZ⟩ := hv
  have hx := B.exec
  have hb := B.bytes
  have hr := B.returns
  have hts := atoms_spec (ws := wsX7_firstWrong) B.pre
  have hown : s.vm.findClass RX7 = some m.cls := findClass_of_methodNamed B.named
  have hlocks := B.notSynchronized
  have hl := lv_entry ([.ref x0, .ref h0, .int n]) (n := 8) (Nat.le_of_ble_eq_true rfl)
  rw [lg_entry_eq]
  generalize (lg_sl ([.ref x0, .ref h0, .int n]) ++ List.replicate (8 - (lg_sl ([.ref x0, .ref h0, .int n])).length) Slot.unset).toArray = ls at hl ⊢
  replace hl : lv_has ls 8 [(0, .ref x0), (1, .ref h0), (2, .int n)] := hl
  refine lv_aload_n hx hb dX7_firstWrong_0 rfl (lv_at hl 0 rfl) ?_
  refine va_get (D := D) (ci := 7) (v := .ref j0) (C := RX7) (T := TX7) (N := 9) hx hb hts hi_X7_firstWrong_7 hown hK hP 0 rfl rfl 1 (by decide) (hts (.fieldLink RX7 18 "TheLiningsInIt" "now" "LTheLiningsInIt$Jacket;") (List.mem_of_getElem? (i := 1) rfl)) (fun _ h9 => h9) rfl dX7_firstWrong_1 ?_
  refine va_get (D := D) (ci := 0) (v := .int de) (C := RX0) (T := TX0) (N := 9) hx hb hts hi_X7_firstWrong_0 hown hK hP 1 rfl rfl 4 (by decide) (hts (.fieldLink RX7 199 "TheLiningsInIt$Jacket" "depth" "I") (List.mem_of_getElem? (i := 2) rfl)) (fun _ h9 => h9) rfl dX7_firstWrong_4 ?_
  refine lv_istore_n (lv' := [(3, .int de), (0, .ref x0), (1, .ref h0), (2, .int n)]) hx hb dX7_firstWrong_7 rfl hl (by decide) rfl (fun ls hl => ?_)
  refine lv_aload_n hx hb dX7_firstWrong_8 rfl (lv_at hl 1 rfl) ?_
  refine va_get (D := D) (ci := 7) (v := .ref j0) (C := RX7) (T := TX7) (N := 9) hx hb hts hi_X7_firstWrong_7 hown hK hP 0 rfl rfl 1 (by decide) (hts (.fieldLink RX7 18 "TheLiningsInIt" "now" "LTheLiningsInIt$Jacket;") (List.mem_of_getElem? (i := 1) rfl)) (fun _ h9 => h9) rfl dX7_firstWrong_9 ?_
  refine va_get (D := D) (ci := 0) (v := .int se) (C := RX0) (T := TX0) (N := 9) hx hb hts hi_X7_firstWrong_0 hown hK hP 1 rfl rfl 6 (by decide) (hts (.fieldLink RX7 202 "TheLiningsInIt$Jacket" "seconds" "I") (List.mem_of_getElem? (i := 3) rfl)) (fun _ h9 => h9) rfl dX7_firstWrong_12 ?_
  refine lv_istore (lv' := [(4, .int se), (3, .int de), (0, .ref x0), (1, .ref h0), (2, .int n)]) hx hb dX7_firstWrong_15 hl (by decide) rfl (fun ls hl => ?_)
  refine lv_iconst (v := 0) hx hb dX7_firstWrong_17 (by decide) ?_
  refine lv_istore (lv' := [(5, .int 0), (4, .int se), (3, .int de), (0, .ref x0), (1, .ref h0), (2, .int n)]) hx hb dX7_firstWrong_18 hl (by decide) rfl (fun ls hl => ?_)
  obtain ⟨i_20, hi_20⟩ : ∃ i : Int32, i = 0 := ⟨_, rfl⟩
  replace hl : lv_has ls 8 [(5, .int i_20), (4, .int se), (3, .int de), (0, .ref x0), (1, .ref h0), (2, .int n)] := by rw [hi_20]; exact lv_sub hl [0, 1, 2, 3, 4, 5] rfl
  have h1i_20 : i_20.toInt = 0 := by rw [hi_20]; decide
  obtain ⟨nfu, hni_20⟩ : ∃ nq9 : Nat, n.toInt ≤ i_20.toInt + (nq9 : Int) := ⟨((n.toInt : Int) - 0).toNat, by omega⟩
  have hloi_20 : 0 ≤ i_20.toInt := by omega
  obtain ⟨v_1, hv_1⟩ : ∃ g : Int32, g = de := ⟨_, rfl⟩
  obtain ⟨v_2, hv_2⟩ : ∃ g : Int32, g = se := ⟨_, rfl⟩
  replace hl : lv_has ls 8 [(5, .int i_20), (4, .int v_2), (3, .int v_1), (0, .ref x0), (1, .ref h0), (2, .int n)] := by rw [hv_1, hv_2]; exact hl
  have hbv_1 : 0 ≤ v_1.toInt ∧ v_1.toInt ≤ 24 := by rw [hv_1]; exact ⟨by omega, by omega⟩
  have hbv_2 : 0 ≤ v_2.toInt ∧ v_2.toInt ≤ 300 := by rw [hv_2]; exact ⟨by omega, by omega⟩
  have hvi_20_0 : zJg kf af tf cn.toInt hu.toInt fe n.toInt.toNat 0 de.toInt se.toInt = zJg kf af tf cn.toInt hu.toInt fe (n.toInt - i_20.toInt).toNat i_20.toInt (v_1 : Int32).toInt (v_2 : Int32).toInt := by
    (try rw [hi_20]); (try rw [hv_1]); (try rw [hv_2]); (rw [show (0 : Int32).toInt = 0 from by decide, Int.sub_zero])
  have hvi_20_1 : i_20.toInt ≤ n.toInt := by
    (try rw [hi_20]); (try rw [hv_1]); (try rw [hv_2]); (have k0 : (0 : Int32).toInt = 0 := (by decide); omega)
  clear h1i_20 hi_20 hv_1 hv_2
  revert hni_20
  revert hloi_20
  revert hvi_20_1
  revert hvi_20_0
  revert hbv_2
  revert hbv_1
  revert hl
  revert ls
  revert v_2
  revert v_1
  revert i_20
  induction nfu with
  | zero =>
    intro i_20 v_1 v_2 ls hl hbv_1 hbv_2 hvi_20_0 hvi_20_1 hloi_20 hni_20
    have hzi_20 : n.toInt ≤ i_20.toInt := by omega
    refine lv_iload hx hb dX7_firstWrong_20 (lv_at hl 0 rfl) ?_
    refine lv_iload_n hx hb dX7_firstWrong_22 rfl (lv_at hl 5 rfl) ?_
    refine lv_icmp_ge (tgt := 129) hx hb dX7_firstWrong_23 (by decide) (fun c_3 => ?_) (fun c_3 => ?_)
    · have fc_3 : n.toInt ≤ i_20.toInt := zf_le c_3 rfl rfl
      refine lv_iconst (v := (-1)) hx hb dX7_firstWrong_129 (by decide) ?_
      exact W.iret (v := (-1)) hx hb hr (fun t ht hW => ⟨(-1), rfl, (show ((-1) : Int32).toInt = zJg kf af tf cn.toInt hu.toInt fe n.toInt.toNat 0 de.toInt se.toInt from by (have k9 : ((-1) : Int32).toInt = -1 := (by decide); rw [hvi_20_0, show (n.toInt - i_20.toInt).toNat = 0 from by omega]; exact k9)), ht⟩) (fun q hq => by cases hq) dX7_firstWrong_130
    · exfalso; have fc_3 : i_20.toInt < n.toInt := zf_nle c_3 rfl rfl; omega
  | succ nfu ih =>
    intro i_20 v_1 v_2 ls hl hbv_1 hbv_2 hvi_20_0 hvi_20_1 hloi_20 hni_20
    refine lv_iload hx hb dX7_firstWrong_20 (lv_at hl 0 rfl) ?_
    refine lv_iload_n hx hb dX7_firstWrong_22 rfl (lv_at hl 5 rfl) ?_
    refine lv_icmp_ge (tgt := 129) hx hb dX7_firstWrong_23 (by decide) (fun c_4 => ?_) (fun c_4 => ?_)
    · have fc_4 : n.toInt ≤ i_20.toInt := zf_le c_4 rfl rfl
      refine lv_iconst (v := (-1)) hx hb dX7_firstWrong_129 (by decide) ?_
      exact W.iret (v := (-1)) hx hb hr (fun t ht hW => ⟨(-1), rfl, (show ((-1) : Int32).toInt = zJg kf af tf cn.toInt hu.toInt fe n.toInt.toNat 0 de.toInt se.toInt from by (have k9 : ((-1) : Int32).toInt = -1 := (by decide); rw [hvi_20_0, show (n.toInt - i_20.toInt).toNat = 0 from by omega]; exact k9)), ht⟩) (fun q hq => by cases hq) dX7_firstWrong_130
    · have fc_4 : i_20.toInt < n.toInt := zf_nle c_4 rfl rfl
      refine lv_aload_n hx hb dX7_firstWrong_26 rfl (lv_at hl 3 rfl) ?_
      refine va_get (D := D) (ci := 7) (v := .ref j0) (C := RX7) (T := TX7) (N := 9) hx hb hts hi_X7_firstWrong_7 hown hK hP 0 rfl rfl 1 (by decide) (hts (.fieldLink RX7 18 "TheLiningsInIt" "now" "LTheLiningsInIt$Jacket;") (List.mem_of_getElem? (i := 1) rfl)) (fun _ h9 => h9) rfl dX7_firstWrong_27 ?_
      refine lv_aload_n hx hb dX7_firstWrong_30 rfl (lv_at hl 4 rfl) ?_
      refine lv_iload hx hb dX7_firstWrong_31 (lv_at hl 0 rfl) ?_
      refine zc_V (As := [.int i_20]) (rest := [.ref j0]) ⟨hx, hb, hml, hown, hts⟩ (c_F_Sh_tells l D cI cJ cZ cP cS po h0 e0 (he) (si) fe (i_20) hy10 hy11 hy12 hy13) (cwV 1 hts gX7_firstWrong_X4_tells rfl rfl rfl ⟨rfl, dh_X4_tells⟩ ⟨Nat.le_of_ble_eq_true rfl, Nat.le_of_ble_eq_true rfl⟩) hK hN hZ hP (hP.sub [3, 4] rfl) (va_recv (q := (RX4, TX4, 3)) hK hP (ci := 4) (q0 := 3) rfl rfl) rfl hl.1 rfl (Nat.le_of_ble_eq_true rfl) dX7_firstWrong_33 ⟨Nat.le_of_ble_eq_true rfl, Nat.le_of_ble_eq_true rfl⟩ (fun r_5 hr_5 => ?_)
      have hsr_5_0 := hr_5
      refine zc_Vq (As := [.int r_5]) (rest := []) ⟨hx, hb, hml, hown, hts⟩ (c_F_J_pullAt l D cI cJ cZ cP cS po j0 jp jc z0 0 0 (cn) (de) (tr) (se) (hu) (sd) fp kf af tf (r_5) hy4 hy5 hy6 hy7 hy8 hy9 hjp) (cwV 1 hts gX7_firstWrong_X0_pullAt rfl rfl rfl ⟨rfl, dh_X0_pullAt⟩ ⟨Nat.le_of_ble_eq_true rfl, Nat.le_of_ble_eq_true rfl⟩) hK hN hZ hP (hP.sub [1, 2] rfl) (va_recv (q := (RX0, TX0, 9)) hK hP (ci := 0) (q0 := 1) rfl rfl) rfl hl.1 rfl (Nat.le_of_ble_eq_true rfl) dX7_firstWrong_36 ⟨Nat.le_of_ble_eq_true rfl, Nat.le_of_ble_eq_true rfl⟩ (fun r_6 hr_6 => ?_)
      rcases hr_6 with ⟨rfl, g_7⟩ | ⟨rfl, g_8, g_9⟩ | ⟨⟨u_11, kiu_11, au_11, tu_11, rfl, huu_11, hkku_11⟩, g_10⟩
      · refine lv_astoreN (lv' := [(6, .null), (5, .int i_20), (4, .int v_2), (3, .int v_1), (0, .ref x0), (1, .ref h0), (2, .int n)]) hx hb dX7_firstWrong_39 hl (by decide) rfl (fun ls hl => ?_)
        refine lv_aloadN hx hb dX7_firstWrong_41 (lv_at hl 0 rfl) ?_
        refine lv_ifnullN (tgt := 57) hx hb dX7_firstWrong_43 (by decide) ?_
        refine lv_iload hx hb dX7_firstWrong_57 (lv_at hl 1 rfl) ?_
        exact W.iret (v := i_20) hx hb hr (fun t ht hW => ⟨i_20, rfl, (show (i_20 : Int32).toInt = zJg kf af tf cn.toInt hu.toInt fe n.toInt.toNat 0 de.toInt se.toInt from by (have zt : zTl fe i_20.toInt = r_5.toInt := (by have z := hsr_5_0 (by omega) (by omega); unfold zTl; rw [show i_20.toInt.toNat = i_20.toNatClampNeg from rfl, ← z]); have y9 : r_5.toNatClampNeg = r_5.toInt.toNat := rfl; have hk : (n.toInt - i_20.toInt).toNat = (n.toInt - (i_20.toInt + 1)).toNat + 1 := (by omega); rw [hvi_20_0, hk, zJg_s, zt, if_neg (fun z => by (have z2 := z.1; omega))])), ht⟩) (fun q hq => by cases hq) dX7_firstWrong_59
      · refine lv_astoreN (lv' := [(6, .null), (5, .int i_20), (4, .int v_2), (3, .int v_1), (0, .ref x0), (1, .ref h0), (2, .int n)]) hx hb dX7_firstWrong_39 hl (by decide) rfl (fun ls hl => ?_)
        refine lv_aloadN hx hb dX7_firstWrong_41 (lv_at hl 0 rfl) ?_
        refine lv_ifnullN (tgt := 57) hx hb dX7_firstWrong_43 (by decide) ?_
        refine lv_iload hx hb dX7_firstWrong_57 (lv_at hl 1 rfl) ?_
        exact W.iret (v := i_20) hx hb hr (fun t ht hW => ⟨i_20, rfl, (show (i_20 : Int32).toInt = zJg kf af tf cn.toInt hu.toInt fe n.toInt.toNat 0 de.toInt se.toInt from by (have zt : zTl fe i_20.toInt = r_5.toInt := (by have z := hsr_5_0 (by omega) (by omega); unfold zTl; rw [show i_20.toInt.toNat = i_20.toNatClampNeg from rfl, ← z]); have y9 : r_5.toNatClampNeg = r_5.toInt.toNat := rfl; have hk : (n.toInt - i_20.toInt).toNat = (n.toInt - (i_20.toInt + 1)).toNat + 1 := (by omega); rw [hvi_20_0, hk, zJg_s, zt, if_neg (fun z => by (have z2 := z.1; omega))])), ht⟩) (fun q hq => by cases hq) dX7_firstWrong_59
      · refine W.eq (g2 := F0 m 39 ls (.ref u_11 :: [])) rfl ?_
        obtain ⟨hku_11, hau_11, htu_11⟩ := zPu_pr hZ huu_11
        refine lv_astore (lv' := [(6, .ref u_11), (5, .int i_20), (4, .int v_2), (3, .int v_1), (0, .ref x0), (1, .ref h0), (2, .int n)]) hx hb dX7_firstWrong_39 hl (by decide) rfl (fun ls hl => ?_)
        refine lv_aload hx hb dX7_firstWrong_41 (lv_at hl 0 rfl) ?_
        refine lv_ifnull hx hb dX7_firstWrong_43 ?_
        refine lv_aload hx hb dX7_firstWrong_46 (lv_at hl 0 rfl) ?_
        refine lv_iload_n hx hb dX7_firstWrong_48 rfl (lv_at hl 3 rfl) ?_
        refine lv_iload hx hb dX7_firstWrong_49 (lv_at hl 2 rfl) ?_
        refine zc_V (As := [.int v_1, .int v_2]) (rest := []) ⟨hx, hb, hml, hown, hts⟩ (c_Pull_mayBe l D cI cJ cZ cP cS po (v_1) (v_2) u_11 (kiu_11) (au_11) (tu_11) huu_11 ⟨by omega, by omega, by omega, by omega⟩) (cwV 2 hts gX7_firstWrong_X2_mayBe rfl rfl rfl ⟨rfl, dh_X2_mayBe⟩ ⟨Nat.le_of_ble_eq_true rfl, Nat.le_of_ble_eq_true rfl⟩) hK hN hZ hP zP_nil (va_recv (q := (RX2, TX2, 3)) hK (zPu_P hZ huu_11) (ci := 2) (q0 := 0) rfl rfl) rfl hl.1 rfl (Nat.le_of_ble_eq_true rfl) dX7_firstWrong_51 ⟨Nat.le_of_ble_eq_true rfl, Nat.le_of_ble_eq_true rfl⟩ (fun r_12 hr_12 => ?_)
        rcases hr_12 with ⟨rfl, g_13⟩ | ⟨rfl, g_14, g_15⟩ | ⟨rfl, g_16, g_17⟩
        · refine lv_if_ne (tgt := 60) hx hb dX7_firstWrong_54 (by decide) (fun c_18 => ?_) (fun c_18 => ?_)
          · exact absurd c_18 (by decide)
          · refine lv_iload hx hb dX7_firstWrong_57 (lv_at hl 1 rfl) ?_
            exact W.iret (v := i_20) hx hb hr (fun t ht hW => ⟨i_20, rfl, (show (i_20 : Int32).toInt = zJg kf af tf cn.toInt hu.toInt fe n.toInt.toNat 0 de.toInt se.toInt from by (have zt : zTl fe i_20.toInt = r_5.toInt := (by have z := hsr_5_0 (by omega) (by omega); unfold zTl; rw [show i_20.toInt.toNat = i_20.toNatClampNeg from rfl, ← z]); have y9 : r_5.toNatClampNeg = r_5.toInt.toNat := rfl; have hk : (n.toInt - i_20.toInt).toNat = (n.toInt - (i_20.toInt + 1)).toNat + 1 := (by omega); obtain ⟨⟨y1, y2, y3⟩, y4, y5⟩ := hkku_11; rw [y9] at y1 y2 y3; rw [hvi_20_0, hk, zJg_s, zt, if_neg (fun z => by (have z2 := z.2.2; have z3 := z.2.1; rw [← y3] at z2; omega))])), ht⟩) (fun q hq => by cases hq) dX7_firstWrong_59
        · refine lv_if_ne (tgt := 60) hx hb dX7_firstWrong_54 (by decide) (fun c_19 => ?_) (fun c_19 => ?_)
          · exact absurd c_19 (by decide)
          · refine lv_iload hx hb dX7_firstWrong_57 (lv_at hl 1 rfl) ?_
            exact W.iret (v := i_20) hx hb hr (fun t ht hW => ⟨i_20, rfl, (show (i_20 : Int32).toInt = zJg kf af tf cn.toInt hu.toInt fe n.toInt.toNat 0 de.toInt se.toInt from by (have zt : zTl fe i_20.toInt = r_5.toInt := (by have z := hsr_5_0 (by omega) (by omega); unfold zTl; rw [show i_20.toInt.toNat = i_20.toNatClampNeg from rfl, ← z]); have y9 : r_5.toNatClampNeg = r_5.toInt.toNat := rfl; have hk : (n.toInt - i_20.toInt).toNat = (n.toInt - (i_20.toInt + 1)).toNat + 1 := (by omega); obtain ⟨⟨y1, y2, y3⟩, y4, y5⟩ := hkku_11; rw [y9] at y1 y2 y3; rw [hvi_20_0, hk, zJg_s, zt, if_neg (fun z => by (have z2 := z.2.2; have z3 := z.2.1; rw [← y3] at z2; omega))])), ht⟩) (fun q hq => by cases hq) dX7_firstWrong_59
        · refine lv_if_ne (tgt := 60) hx hb dX7_firstWrong_54 (by decide) (fun c_20 => ?_) (fun c_20 => ?_)
          · refine lv_aload hx hb dX7_firstWrong_60 (lv_at hl 0 rfl) ?_
            refine lv_iload_n hx hb dX7_firstWrong_62 rfl (lv_at hl 3 rfl) ?_
            refine lv_aload_n hx hb dX7_firstWrong_63 rfl (lv_at hl 4 rfl) ?_
            refine va_get (D := D) (ci := 7) (v := .ref j0) (C := RX7) (T := TX7) (N := 9) hx hb hts hi_X7_firstWrong_7 hown hK hP 0 rfl rfl 1 (by decide) (hts (.fieldLink RX7 18 "TheLiningsInIt" "now" "LTheLiningsInIt$Jacket;") (List.mem_of_getElem? (i := 1) rfl)) (fun _ h9 => h9) rfl dX7_firstWrong_64 ?_
            refine va_get (D := D) (ci := 0) (v := .int hu) (C := RX0) (T := TX0) (N := 9) hx hb hts hi_X7_firstWrong_0 hown hK hP 1 rfl rfl 7 (by decide) (hts (.fieldLink RX7 116 "TheLiningsInIt$Jacket" "hurry" "I") (List.mem_of_getElem? (i := 4) rfl)) (fun _ h9 => h9) rfl dX7_firstWrong_67 ?_
            refine zc_V (As := [.int v_1, .int hu]) (rest := []) ⟨hx, hb, hml, hown, hts⟩ (c_F_Pull_waysAt l D cI cJ cZ cP cS po (v_1) (hu) u_11 (kiu_11) (au_11) (tu_11) huu_11 ⟨by omega, by omega, by omega, by omega⟩ hbv_1.1 hbv_1.2 hy8 hy9) (cwV 2 hts gX7_firstWrong_X2_waysAt rfl rfl rfl ⟨rfl, dh_X2_waysAt⟩ ⟨Nat.le_of_ble_eq_true rfl, Nat.le_of_ble_eq_true rfl⟩) hK hN hZ hP zP_nil (va_recv (q := (RX2, TX2, 3)) hK (zPu_P hZ huu_11) (ci := 2) (q0 := 0) rfl rfl) rfl hl.1 rfl (Nat.le_of_ble_eq_true rfl) dX7_firstWrong_70 ⟨Nat.le_of_ble_eq_true rfl, Nat.le_of_ble_eq_true rfl⟩ (fun r_21 hr_21 => ?_)
            obtain ⟨g_22, g_23, hsr_21_0⟩ := hr_21
            refine lv_bipush (v := 6) hx hb dX7_firstWrong_73 (by decide) ?_
            refine lv_icmp_lt (tgt := 82) hx hb dX7_firstWrong_75 (by decide) (fun c_24 => ?_) (fun c_24 => ?_)
            · have fc_24 : r_21.toInt < 6 := zf_lt c_24 rfl (by decide)
              refine lv_iconst (v := 0) hx hb dX7_firstWrong_82 (by decide) ?_
              refine lv_istore (lv' := [(7, .int 0), (6, .ref u_11), (5, .int i_20), (4, .int v_2), (3, .int v_1), (0, .ref x0), (1, .ref h0), (2, .int n)]) hx hb dX7_firstWrong_83 hl (by decide) rfl (fun ls hl => ?_)
              refine lv_iload hx hb dX7_firstWrong_85 (lv_at hl 0 rfl) ?_
              refine lv_if_eq (tgt := 99) hx hb dX7_firstWrong_87 (by decide) (fun c_25 => ?_) (fun c_25 => ?_)
              · refine lv_aload hx hb dX7_firstWrong_99 (lv_at hl 1 rfl) ?_
                refine lv_iload_n hx hb dX7_firstWrong_101 rfl (lv_at hl 4 rfl) ?_
                refine lv_aload_n hx hb dX7_firstWrong_102 rfl (lv_at hl 5 rfl) ?_
                refine va_get (D := D) (ci := 7) (v := .ref j0) (C := RX7) (T := TX7) (N := 9) hx hb hts hi_X7_firstWrong_7 hown hK hP 0 rfl rfl 1 (by decide) (hts (.fieldLink RX7 18 "TheLiningsInIt" "now" "LTheLiningsInIt$Jacket;") (List.mem_of_getElem? (i := 1) rfl)) (fun _ h9 => h9) rfl dX7_firstWrong_103 ?_
                refine va_get (D := D) (ci := 0) (v := .int hu) (C := RX0) (T := TX0) (N := 9) hx hb hts hi_X7_firstWrong_0 hown hK hP 1 rfl rfl 7 (by decide) (hts (.fieldLink RX7 116 "TheLiningsInIt$Jacket" "hurry" "I") (List.mem_of_getElem? (i := 4) rfl)) (fun _ h9 => h9) rfl dX7_firstWrong_106 ?_
                refine zc_V (As := [.int v_1, .int hu]) (rest := []) ⟨hx, hb, hml, hown, hts⟩ (c_F_Pull_deeper l D cI cJ cZ cP cS po (v_1) (hu) u_11 (kiu_11) (au_11) (tu_11) huu_11 ⟨by omega, by omega, by omega, by omega⟩ hbv_1.1 hbv_1.2 hy8 hy9) (cwV 2 hts gX7_firstWrong_X2_deeper rfl rfl rfl ⟨rfl, dh_X2_deeper⟩ ⟨Nat.le_of_ble_eq_true rfl, Nat.le_of_ble_eq_true rfl⟩) hK hN hZ hP zP_nil (va_recv (q := (RX2, TX2, 3)) hK (zPu_P hZ huu_11) (ci := 2) (q0 := 0) rfl rfl) rfl hl.1 rfl (Nat.le_of_ble_eq_true rfl) dX7_firstWrong_109 ⟨Nat.le_of_ble_eq_true rfl, Nat.le_of_ble_eq_true rfl⟩ (fun r_26 hr_26 => ?_)
                obtain ⟨g_27, g_28, hsr_26_0⟩ := hr_26
                refine lv_istore_n (lv' := [(3, .int r_26), (7, .int 0), (6, .ref u_11), (5, .int i_20), (4, .int v_2), (0, .ref x0), (1, .ref h0), (2, .int n)]) hx hb dX7_firstWrong_112 rfl hl (by decide) rfl (fun ls hl => ?_)
                refine lv_iload hx hb dX7_firstWrong_113 (lv_at hl 4 rfl) ?_
                refine lv_aload hx hb dX7_firstWrong_115 (lv_at hl 2 rfl) ?_
                refine va_get (D := D) (ci := 2) (v := .int tu_11) (C := RX2) (T := TX2) (N := 3) hx hb hts hi_X7_firstWrong_2 hown hK (zPu_P hZ huu_11) 0 rfl rfl 2 (by decide) (hts (.fieldLink RX7 110 "TheLiningsInIt$Pull" "takes" "I") (List.mem_of_getElem? (i := 5) rfl)) (fun _ h9 => h9) rfl dX7_firstWrong_117 ?_
                refine lv_isub hx hb dX7_firstWrong_120 ?_
                refine lv_topi (fun x_29 ex_29 => ?_)
                have qx_29 : x_29.toInt = v_2.toInt - tu_11.toInt := by rw [ex_29]; exact zf_sub rfl rfl (by omega) (by omega)
                refine lv_istore (lv' := [(4, .int x_29), (3, .int r_26), (7, .int 0), (6, .ref u_11), (5, .int i_20), (0, .ref x0), (1, .ref h0), (2, .int n)]) hx hb dX7_firstWrong_121 hl (by decide) rfl (fun ls hl => ?_)
                obtain ⟨x_30, ex_30⟩ : ∃ y : Int32, y = i_20 + 1 := ⟨_, rfl⟩
                have qx_30 : x_30.toInt = i_20.toInt + 1 := dw_inc ex_30 fc_4
                refine lv_iinc (v := x_30) (lv' := [(5, .int x_30), (4, .int x_29), (3, .int r_26), (7, .int 0), (6, .ref u_11), (0, .ref x0), (1, .ref h0), (2, .int n)]) hx hb dX7_firstWrong_123 hl (k := 4) rfl ex_30.symm (by decide) rfl (fun ls hl => ?_)
                refine lv_goto (tgt := 20) hx hb dX7_firstWrong_126 (by decide) ?_
                exact ih x_30 r_26 x_29 _ (lv_sub hl [0, 1, 2, 5, 6, 7] rfl) ⟨by omega, by omega⟩ ⟨by omega, by omega⟩ (show zJg kf af tf cn.toInt hu.toInt fe n.toInt.toNat 0 de.toInt se.toInt = zJg kf af tf cn.toInt hu.toInt fe (n.toInt - x_30.toInt).toNat x_30.toInt (r_26 : Int32).toInt (x_29 : Int32).toInt from by (have zt : zTl fe i_20.toInt = r_5.toInt := (by have z := hsr_5_0 (by omega) (by omega); unfold zTl; rw [show i_20.toInt.toNat = i_20.toNatClampNeg from rfl, ← z]); have y9 : r_5.toNatClampNeg = r_5.toInt.toNat := rfl; have hk : (n.toInt - i_20.toInt).toNat = (n.toInt - (i_20.toInt + 1)).toNat + 1 := (by omega); obtain ⟨⟨y1, y2, y3⟩, y4, y5⟩ := hkku_11; rw [y9] at y1 y2 y3; rw [hvi_20_0, hk, zJg_s, zt, if_pos ⟨⟨by omega, by omega⟩, by omega, by rw [← y3]; omega⟩, ← y1, ← y2, ← y3, ← hsr_21_0, if_neg (by omega), ← hsr_26_0, show v_2.toInt - tu_11.toInt = (x_29 : Int32).toInt from by omega, show x_30.toInt = i_20.toInt + 1 from by omega])) (show x_30.toInt ≤ n.toInt from by omega) (dw_lo hloi_20 qx_30) (dw_hn hni_20 qx_30)
              · exact absurd c_25 (by decide)
            · have fc_24 : 6 ≤ r_21.toInt := zf_nlt c_24 rfl (by decide)
              refine lv_iconst (v := 1) hx hb dX7_firstWrong_78 (by decide) ?_
              refine lv_goto (tgt := 83) hx hb dX7_firstWrong_79 (by decide) ?_
              refine lv_istore (lv' := [(7, .int 1), (6, .ref u_11), (5, .int i_20), (4, .int v_2), (3, .int v_1), (0, .ref x0), (1, .ref h0), (2, .int n)]) hx hb dX7_firstWrong_83 hl (by decide) rfl (fun ls hl => ?_)
              refine lv_iload hx hb dX7_firstWrong_85 (lv_at hl 0 rfl) ?_
              refine lv_if_eq (tgt := 99) hx hb dX7_firstWrong_87 (by decide) (fun c_31 => ?_) (fun c_31 => ?_)
              · exact absurd c_31 (by decide)
              · refine lv_aload hx hb dX7_firstWrong_90 (lv_at hl 1 rfl) ?_
                refine lv_iload_n hx hb dX7_firstWrong_92 rfl (lv_at hl 4 rfl) ?_
                refine zc_V (As := [.int v_1]) (rest := []) ⟨hx, hb, hml, hown, hts⟩ (c_F_Pull_shallower l D cI cJ cZ cP cS po (v_1) u_11 (kiu_11) (au_11) (tu_11) huu_11 ⟨by omega, by omega, by omega, by omega⟩ hbv_1.1 hbv_1.2) (cwV 1 hts gX7_firstWrong_X2_shallower rfl rfl rfl ⟨rfl, dh_X2_shallower⟩ ⟨Nat.le_of_ble_eq_true rfl, Nat.le_of_ble_eq_true rfl⟩) hK hN hZ hP zP_nil (va_recv (q := (RX2, TX2, 3)) hK (zPu_P hZ huu_11) (ci := 2) (q0 := 0) rfl rfl) rfl hl.1 rfl (Nat.le_of_ble_eq_true rfl) dX7_firstWrong_93 ⟨Nat.le_of_ble_eq_true rfl, Nat.le_of_ble_eq_true rfl⟩ (fun r_32 hr_32 => ?_)
                obtain ⟨g_33, g_34, hsr_32_0⟩ := hr_32
                refine lv_goto (tgt := 112) hx hb dX7_firstWrong_96 (by decide) ?_
                refine lv_istore_n (lv' := [(3, .int r_32), (7, .int 1), (6, .ref u_11), (5, .int i_20), (4, .int v_2), (0, .ref x0), (1, .ref h0), (2, .int n)]) hx hb dX7_firstWrong_112 rfl hl (by decide) rfl (fun ls hl => ?_)
                refine lv_iload hx hb dX7_firstWrong_113 (lv_at hl 4 rfl) ?_
                refine lv_aload hx hb dX7_firstWrong_115 (lv_at hl 2 rfl) ?_
                refine va_get (D := D) (ci := 2) (v := .int tu_11) (C := RX2) (T := TX2) (N := 3) hx hb hts hi_X7_firstWrong_2 hown hK (zPu_P hZ huu_11) 0 rfl rfl 2 (by decide) (hts (.fieldLink RX7 110 "TheLiningsInIt$Pull" "takes" "I") (List.mem_of_getElem? (i := 5) rfl)) (fun _ h9 => h9) rfl dX7_firstWrong_117 ?_
                refine lv_isub hx hb dX7_firstWrong_120 ?_
                refine lv_topi (fun x_35 ex_35 => ?_)
                have qx_35 : x_35.toInt = v_2.toInt - tu_11.toInt := by rw [ex_35]; exact zf_sub rfl rfl (by omega) (by omega)
                refine lv_istore (lv' := [(4, .int x_35), (3, .int r_32), (7, .int 1), (6, .ref u_11), (5, .int i_20), (0, .ref x0), (1, .ref h0), (2, .int n)]) hx hb dX7_firstWrong_121 hl (by decide) rfl (fun ls hl => ?_)
                obtain ⟨x_36, ex_36⟩ : ∃ y : Int32, y = i_20 + 1 := ⟨_, rfl⟩
                have qx_36 : x_36.toInt = i_20.toInt + 1 := dw_inc ex_36 fc_4
                refine lv_iinc (v := x_36) (lv' := [(5, .int x_36), (4, .int x_35), (3, .int r_32), (7, .int 1), (6, .ref u_11), (0, .ref x0), (1, .ref h0), (2, .int n)]) hx hb dX7_firstWrong_123 hl (k := 4) rfl ex_36.symm (by decide) rfl (fun ls hl => ?_)
                refine lv_goto (tgt := 20) hx hb dX7_firstWrong_126 (by decide) ?_
                exact ih x_36 r_32 x_35 _ (lv_sub hl [0, 1, 2, 5, 6, 7] rfl) ⟨by omega, by omega⟩ ⟨by omega, by omega⟩ (show zJg kf af tf cn.toInt hu.toInt fe n.toInt.toNat 0 de.toInt se.toInt = zJg kf af tf cn.toInt hu.toInt fe (n.toInt - x_36.toInt).toNat x_36.toInt (r_32 : Int32).toInt (x_35 : Int32).toInt from by (have zt : zTl fe i_20.toInt = r_5.toInt := (by have z := hsr_5_0 (by omega) (by omega); unfold zTl; rw [show i_20.toInt.toNat = i_20.toNatClampNeg from rfl, ← z]); have y9 : r_5.toNatClampNeg = r_5.toInt.toNat := rfl; have hk : (n.toInt - i_20.toInt).toNat = (n.toInt - (i_20.toInt + 1)).toNat + 1 := (by omega); obtain ⟨⟨y1, y2, y3⟩, y4, y5⟩ := hkku_11; rw [y9] at y1 y2 y3; rw [hvi_20_0, hk, zJg_s, zt, if_pos ⟨⟨by omega, by omega⟩, by omega, by rw [← y3]; omega⟩, ← y1, ← y2, ← y3, ← hsr_21_0, if_pos (by omega), ← hsr_32_0, show v_2.toInt - tu_11.toInt = (x_35 : Int32).toInt from by omega, show x_36.toInt = i_20.toInt + 1 from by omega])) (show x_36.toInt ≤ n.toInt from by omega) (dw_lo hloi_20 qx_36) (dw_hn hni_20 qx_36)
          · exact absurd c_20 (by decide)
set_option maxHeartbeats 4000000 in
set_option maxRecDepth 100000 in
theorem c_F_X_judge (l : Launch) (D : va_G) (cI cJ cZ cP cS : ClassId) (po : zPool) (x0 xs j0 k0 w0 rd mv xr : Nat) (im lf : Int32) (fr : Nat → Int32) (fh : Nat → Option Nat) (s_ : Int32) (h0 e0 : Nat) (he si : Int32) (fe : Nat → Int64) (j0 jp jc z0 zl zs : Nat) (cn de tr se hu sd : Int32) (fp : Nat → Option Nat) (kf af tf : Nat → Int32) (n : Int32) (hy0 : 0 ≤ im.toInt) (hy1 : im.toInt ≤ 1) (hy2 : (-1) ≤ lf.toInt) (hy3 : lf.toInt ≤ 160) (hy4 : (-1) ≤ he.toInt) (hy5 : he.toInt ≤ 103) (hy6 : 0 ≤ si.toInt) (hy7 : si.toInt ≤ 160) (hfs : 0 ≤ s_.toInt → s_.toInt ≤ 7 → fh s_.toNatClampNeg = some h0) (hy9 : 0 ≤ cn.toInt) (hy10 : cn.toInt ≤ 8) (hy11 : 0 ≤ de.toInt) (hy12 : de.toInt ≤ 24) (hy13 : 0 ≤ hu.toInt) (hy14 : hu.toInt ≤ 9) (hjp : zJP po fp cn kf af tf) (hy16 : 0 ≤ se.toInt) (hy17 : se.toInt ≤ 300) (hpz : Nat) : Met l yX7_judge wsX7_judge ({ frames := 3, cells := 0, slots := 0, locals := 71 }) (va_Pc [.ref x0, .int s_, .int n] (zW D (zKT cI cJ cZ cP cS) po [(x0, .inr (7, [.ref xs, .ref j0, .ref k0, .ref w0, .ref rd, .ref mv, .ref xr, .int im, .int lf])), (xr, .inl (cI, 8, .inl fr)), (xs, .inl (cS, 8, .inr (.inr (.inr (.inr fh))))), (h0, .inr (4, [.ref e0, .int he, .int si])), (e0, .inl (cJ, 160, .inr (.inl fe))), (j0, .inr (0, [.ref z0, .ref jp, .ref jc, .int cn, .int de, .int tr, .int se, .int hu, .int sd])), (jp, .inl (cP, 8, .inr (.inr (.inr (.inr fp)))))] hpz)) (va_Qi (fun (r : Int32) (fr2 : (Nat → Int32)) => (((s_.toInt < 0 ∨ 7 < s_.toInt) ∧ r.toInt = -11) ∨ ((0 ≤ s_.toInt ∧ s_.toInt ≤ 7) ∧ ((he.toInt = -1 ∧ r.toInt = -13) ∨ (he.toInt ≠ -1 ∧ he.toInt < 100 ∧ r.toInt = -12) ∨ (100 ≤ he.toInt ∧ ((n.toInt < 0 ∧ r.toInt = -14) ∨ (0 ≤ n.toInt ∧ si.toInt < n.toInt ∧ r.toInt = -15) ∨ (0 ≤ n.toInt ∧ n.toInt ≤ si.toInt ∧ 20 < n.toInt ∧ r.toInt = -16) ∨ ((0 ≤ n.toInt ∧ n.toInt ≤ si.toInt ∧ n.toInt ≤ 20) ∧ r.toInt = zJg kf af tf cn.toInt hu.toInt fe n.toInt.toNat 0 de.toInt se.toInt)))))) ∧ (True)) (zB D [(x0, .inr (7, [.ref xs, .ref j0, .ref k0, .ref w0, .ref rd, .ref mv, .ref xr, .int im, .int lf])), (xr, .inl (cI, 8, .inl fr)), (xs, .inl (cS, 8, .inr (.inr (.inr (.inr fh))))), (h0, .inr (4, [.ref e0, .int he, .int si])), (e0, .inl (cJ, 160, .inr (.inl fe))), (j0, .inr (0, [.ref z0, .ref jp, .ref jc, .int cn, .int de, .int tr, .int se, .int hu, .int sd])), (jp, .inl (cP, 8, .inr (.inr (.inr (.inr fp)))))] hpz (fun (fr2 : Nat → Int32) => [(x0, .inr (7, [.ref xs, .ref j0, .ref k0, .ref w0, .ref rd, .ref mv, .ref xr, .int im, .int lf])), (xr, .inl (cI, 8, .inl fr2)), (xs, .inl (cS, 8, .inr (.inr (.inr (.inr fh))))), (h0, .inr (4, [.ref e0, .int he, .int si])), (e0, .inl (cJ, 160, .inr (.inl fe))), (j0, .inr (0, [.ref z0, .ref jp, .ref jc, .int cn, .int de, .int tr, .int se, .int hu, .int sd])), (jp, .inl (cP, 8, .inr (.inr (.inr (.inr fp)))))])) (va_A [(x0, .inr (7, [.ref xs, .ref j0, .ref k0, .ref w0, .ref rd, .ref mv, .ref xr, .int im, .int lf])), (xr, .inl (cI, 8, .inl fr)), (xs, .inl (cS, 8, .inr (.inr (.inr (.inr fh))))), (h0, .inr (4, [.ref e0, .int he, .int si])), (e0, .inl (cJ, 160, .inr (.inl fe))), (j0, .inr (0, [.ref z0, .ref jp, .ref jc, .int cn, .int de, .int tr, .int se, .int hu, .int sd])), (jp, .inl (cP, 8, .inr (.inr (.inr (.inr fp)))))] hpz)) 0 0 (va_A [(x0, .inr (7, [.ref xs, .ref j0, .ref k0, .ref w0, .ref rd, .ref mv, .ref xr, .int im, .int lf])), (xr, .inl (cI, 8, .inl fr)), (xs, .inl (cS, 8, .inr (.inr (.inr (.inr fh))))), (h0, .inr (4, [.ref e0, .int he, .int si])), (e0, .inl (cJ, 160, .inr (.inl fe))), (j0, .inr (0, [.ref z0, .ref jp, .ref jc, .int cn, .int de, .int tr, .int se, .int hu, .int sd])), (jp, .inl (cP, 8, .inr (.inr (.inr (.inr fp)))))] hpz) := by
  refine Met.ofW (cc := cX7_judge) (maxL := 5) (ret := (some .int)) (by decide) rfl ?_
  intro p e s m args below meth c s₁ B hml hv
  obtain ⟨rfl, hsz, hP, hK, hD0, hN, hZ⟩ := hv
  have hx := B.exec
  have hb := B.bytes
  have hr := B.returns
  have hts := atoms_spec (ws := wsX7_judge) B.pre
  have hown : s.vm.findClass RX7 = some m.cls := findClass_of_methodNamed B.named
  have hlocks := B.notSynchronized
  subst hsz
  have hD := hD0.self (sz := s.heap.size)
  have hA := zA_of hD
  have hl := lv_entry ([.ref x0, .int s_, .int n]) (n := 5) (Nat.le_of_ble_eq_true rfl)
  rw [lg_entry_eq]
  generalize (lg_sl ([.ref x0, .int s_, .int n]) ++ List.replicate (5 - (lg_sl ([.ref x0, .int s_, .int n])).length) Slot.unset).toArray = ls at hl ⊢
  replace hl : lv_has ls 5 [(0, .ref x0), (1, .int s_), (2, .int n)] := hl
  refine zw_begin hP hD (fun H locs hP1 hS => ?_)
  clear hP
  have hP := hP1
  clear hP1
  refine lv_aload_n hx hb dX7_judge_0 rfl (lv_at hl 0 rfl) ?_
  refine lv_iload_n hx hb dX7_judge_1 rfl (lv_at hl 1 rfl) ?_
  refine zc_Vq (As := [.int s_]) (rest := []) ⟨hx, hb, hml, hown, hts⟩ (c_X_shelfAt l D cI cJ cZ cP cS po x0 xs j0 k0 w0 rd mv xr (im) (lf) ((fun _ => 0)) fh (s_) hy0 hy1 hy2 hy3) (cwV 1 hts gX7_judge_X7_shelfAt rfl rfl rfl ⟨rfl, dh_X7_shelfAt⟩ ⟨Nat.le_of_ble_eq_true rfl, Nat.le_of_ble_eq_true rfl⟩) hK hN (hZ.kept hS) hP (hP.sub [0, 2] rfl) (va_recv (q := (RX7, TX7, 9)) hK hP (ci := 7) (q0 := 0) rfl rfl) rfl hl.1 rfl (Nat.le_of_ble_eq_true rfl) dX7_judge_2 ⟨Nat.le_of_ble_eq_true rfl, Nat.le_of_ble_eq_true rfl⟩ (fun r_1 hr_1 => ?_)
  rcases hr_1 with ⟨rfl, g_2⟩ | ⟨rfl, g_3, g_4⟩ | ⟨rfl, g_5, g_6⟩
  · refine lv_astore_nN (lv' := [(3, .null), (0, .ref x0), (1, .int s_), (2, .int n)]) hx hb dX7_judge_5 rfl hl (by decide) rfl (fun ls hl => ?_)
    refine lv_aload_nN hx hb dX7_judge_6 rfl (lv_at hl 0 rfl) ?_
    refine lv_ifnonnullN hx hb dX7_judge_7 ?_
    refine lv_aload_n hx hb dX7_judge_10 rfl (lv_at hl 1 rfl) ?_
    refine lv_iconst (v := 1) hx hb dX7_judge_11 (by decide) ?_
    skip
    refine zw_V (As := [.int 1]) (rest := []) (wr := [(xs, .inl (cS, 8, .inr (.inr (.inr (.inr fh))))), (h0, .inr (4, [.ref e0, .int he, .int si])), (e0, .inl (cJ, 160, .inr (.inl fe))), (j0, .inr (0, [.ref z0, .ref jp, .ref jc, .int cn, .int de, .int tr, .int se, .int hu, .int sd])), (jp, .inl (cP, 8, .inr (.inr (.inr (.inr fp)))))]) ⟨hx, hb, hml, hown, hts⟩ (c_X_refuseLower_1 l D cI cJ cZ cP cS po x0 xs j0 k0 w0 rd mv xr (im) (lf) fr hy0 hy1 hy2 hy3 H.size) (cwV 1 hts gX7_judge_X7_refuseLower rfl rfl rfl ⟨rfl, dh_X7_refuseLower⟩ ⟨Nat.le_of_ble_eq_true rfl, Nat.le_of_ble_eq_true rfl⟩) hK hN (hZ.kept hS) hP hD hS hA [0, 1] [2, 3, 4, 5, 6] rfl rfl (by decide) (by decide) (by decide) (va_recv (q := (RX7, TX7, 9)) hK hP (ci := 7) (q0 := 0) rfl rfl) rfl hl.1 rfl (Nat.le_of_ble_eq_true rfl) dX7_judge_12 ⟨Nat.le_of_ble_eq_true rfl, Nat.le_of_ble_eq_true rfl⟩ (fun r_7 u_8 H locs hr_7 hP hD hS => ?_)
    obtain ⟨q_9, rfl⟩ : ∃ z, z = u_8 := ⟨_, rfl⟩
    have h9R := zRe (ws' := [(xs, .inl (cS, 8, .inr (.inr (.inr (.inr fh))))), (h0, .inr (4, [.ref e0, .int he, .int si])), (e0, .inl (cJ, 160, .inr (.inl fe))), (j0, .inr (0, [.ref z0, .ref jp, .ref jc, .int cn, .int de, .int tr, .int se, .int hu, .int sd])), (jp, .inl (cP, 8, .inr (.inr (.inr (.inr fp))))), (x0, .inr (7, [.ref xs, .ref j0, .ref k0, .ref w0, .ref rd, .ref mv, .ref xr, .int im, .int lf])), (xr, .inl (cI, 8, .inl q_9))]) hP hD rfl
    clear hP hD
    obtain ⟨hP, hD⟩ := h9R
    obtain rfl := hr_7
    exact W.iret (v := (-11)) hx hb hr (fun t ht hW => ⟨⟨(-11), q_9, rfl, ⟨(show ((s_.toInt < 0 ∨ 7 < s_.toInt) ∧ ((-11) : Int32).toInt = -11) ∨ ((0 ≤ s_.toInt ∧ s_.toInt ≤ 7) ∧ ((he.toInt = -1 ∧ ((-11) : Int32).toInt = -13) ∨ (he.toInt ≠ -1 ∧ he.toInt < 100 ∧ ((-11) : Int32).toInt = -12) ∨ (100 ≤ he.toInt ∧ ((n.toInt < 0 ∧ ((-11) : Int32).toInt = -14) ∨ (0 ≤ n.toInt ∧ si.toInt < n.toInt ∧ ((-11) : Int32).toInt = -15) ∨ (0 ≤ n.toInt ∧ n.toInt ≤ si.toInt ∧ 20 < n.toInt ∧ ((-11) : Int32).toInt = -16) ∨ ((0 ≤ n.toInt ∧ n.toInt ≤ si.toInt ∧ n.toInt ≤ 20) ∧ ((-11) : Int32).toInt = zJg kf af tf cn.toInt hu.toInt fe n.toInt.toNat 0 de.toInt se.toInt))))) from by (have k9 : ((-11) : Int32).toInt = -11 := (by decide); omega)), trivial⟩, zRet ht hP hD [5, 6, 0, 1, 2, 3, 4] (by decide) rfl⟩, hS.F ht⟩) hS.2.2 dX7_judge_15
  · refine lv_astore_nN (lv' := [(3, .null), (0, .ref x0), (1, .int s_), (2, .int n)]) hx hb dX7_judge_5 rfl hl (by decide) rfl (fun ls hl => ?_)
    refine lv_aload_nN hx hb dX7_judge_6 rfl (lv_at hl 0 rfl) ?_
    refine lv_ifnonnullN hx hb dX7_judge_7 ?_
    refine lv_aload_n hx hb dX7_judge_10 rfl (lv_at hl 1 rfl) ?_
    refine lv_iconst (v := 1) hx hb dX7_judge_11 (by decide) ?_
    skip
    refine zw_V (As := [.int 1]) (rest := []) (wr := [(xs, .inl (cS, 8, .inr (.inr (.inr (.inr fh))))), (h0, .inr (4, [.ref e0, .int he, .int si])), (e0, .inl (cJ, 160, .inr (.inl fe))), (j0, .inr (0, [.ref z0, .ref jp, .ref jc, .int cn, .int de, .int tr, .int se, .int hu, .int sd])), (jp, .inl (cP, 8, .inr (.inr (.inr (.inr fp)))))]) ⟨hx, hb, hml, hown, hts⟩ (c_X_refuseLower_1 l D cI cJ cZ cP cS po x0 xs j0 k0 w0 rd mv xr (im) (lf) fr hy0 hy1 hy2 hy3 H.size) (cwV 1 hts gX7_judge_X7_refuseLower rfl rfl rfl ⟨rfl, dh_X7_refuseLower⟩ ⟨Nat.le_of_ble_eq_true rfl, Nat.le_of_ble_eq_true rfl⟩) hK hN (hZ.kept hS) hP hD hS hA [0, 1] [2, 3, 4, 5, 6] rfl rfl (by decide) (by decide) (by decide) (va_recv (q := (RX7, TX7, 9)) hK hP (ci := 7) (q0 := 0) rfl rfl) rfl hl.1 rfl (Nat.le_of_ble_eq_true rfl) dX7_judge_12 ⟨Nat.le_of_ble_eq_true rfl, Nat.le_of_ble_eq_true rfl⟩ (fun r_10 u_11 H locs hr_10 hP hD hS => ?_)
    obtain ⟨q_12, rfl⟩ : ∃ z, z = u_11 := ⟨_, rfl⟩
    have h9R := zRe (ws' := [(xs, .inl (cS, 8, .inr (.inr (.inr (.inr fh))))), (h0, .inr (4, [.ref e0, .int he, .int si])), (e0, .inl (cJ, 160, .inr (.inl fe))), (j0, .inr (0, [.ref z0, .ref jp, .ref jc, .int cn, .int de, .int tr, .int se, .int hu, .int sd])), (jp, .inl (cP, 8, .inr (.inr (.inr (.inr fp))))), (x0, .inr (7, [.ref xs, .ref j0, .ref k0, .ref w0, .ref rd, .ref mv, .ref xr, .int im, .int lf])), (xr, .inl (cI, 8, .inl q_12))]) hP hD rfl
    clear hP hD
    obtain ⟨hP, hD⟩ := h9R
    obtain rfl := hr_10
    exact W.iret (v := (-11)) hx hb hr (fun t ht hW => ⟨⟨(-11), q_12, rfl, ⟨(show ((s_.toInt < 0 ∨ 7 < s_.toInt) ∧ ((-11) : Int32).toInt = -11) ∨ ((0 ≤ s_.toInt ∧ s_.toInt ≤ 7) ∧ ((he.toInt = -1 ∧ ((-11) : Int32).toInt = -13) ∨ (he.toInt ≠ -1 ∧ he.toInt < 100 ∧ ((-11) : Int32).toInt = -12) ∨ (100 ≤ he.toInt ∧ ((n.toInt < 0 ∧ ((-11) : Int32).toInt = -14) ∨ (0 ≤ n.toInt ∧ si.toInt < n.toInt ∧ ((-11) : Int32).toInt = -15) ∨ (0 ≤ n.toInt ∧ n.toInt ≤ si.toInt ∧ 20 < n.toInt ∧ ((-11) : Int32).toInt = -16) ∨ ((0 ≤ n.toInt ∧ n.toInt ≤ si.toInt ∧ n.toInt ≤ 20) ∧ ((-11) : Int32).toInt = zJg kf af tf cn.toInt hu.toInt fe n.toInt.toNat 0 de.toInt se.toInt))))) from by (have k9 : ((-11) : Int32).toInt = -11 := (by decide); omega)), trivial⟩, zRet ht hP hD [5, 6, 0, 1, 2, 3, 4] (by decide) rfl⟩, hS.F ht⟩) hS.2.2 dX7_judge_15
  · rw [hfs (by omega) (by omega)]
    refine W.eq (g2 := F0 m 5 ls (.ref h0 :: [])) rfl ?_
    refine lv_astore_n (lv' := [(3, .ref h0), (0, .ref x0), (1, .int s_), (2, .int n)]) hx hb dX7_judge_5 rfl hl (by decide) rfl (fun ls hl => ?_)
    refine lv_aload_n hx hb dX7_judge_6 rfl (lv_at hl 0 rfl) ?_
    refine lv_ifnonnull (tgt := 16) hx hb dX7_judge_7 (by decide) ?_
    refine lv_aload_n hx hb dX7_judge_16 rfl (lv_at hl 0 rfl) ?_
    refine lv_iload_n hx hb dX7_judge_17 rfl (lv_at hl 3 rfl) ?_
    refine zc_V (As := [.int n]) (rest := []) ⟨hx, hb, hml, hown, hts⟩ (c_Sh_noTelling l D cI cJ cZ cP cS po h0 e0 (he) (si) (n) hy4 hy5 hy6 hy7) (cwV 1 hts gX7_judge_X4_noTelling rfl rfl rfl ⟨rfl, dh_X4_noTelling⟩ ⟨Nat.le_of_ble_eq_true rfl, Nat.le_of_ble_eq_true rfl⟩) hK hN (hZ.kept hS) hP (hP.sub [3] rfl) (va_recv (q := (RX4, TX4, 3)) hK hP (ci := 4) (q0 := 3) rfl rfl) rfl hl.1 rfl (Nat.le_of_ble_eq_true rfl) dX7_judge_18 ⟨Nat.le_of_ble_eq_true rfl, Nat.le_of_ble_eq_true rfl⟩ (fun r_13 hr_13 => ?_)
    rcases hr_13 with ⟨rfl, g_14, g_15⟩ | ⟨rfl, g_16, g_17⟩ | ⟨rfl, g_18, g_19, g_20⟩ | ⟨rfl, g_21, g_22, g_23⟩ | ⟨rfl, g_24, g_25⟩
    · refine lv_istore (lv' := [(4, .int 2), (3, .ref h0), (0, .ref x0), (1, .int s_), (2, .int n)]) hx hb dX7_judge_21 hl (by decide) rfl (fun ls hl => ?_)
      refine lv_iload hx hb dX7_judge_23 (lv_at hl 0 rfl) ?_
      refine lv_if_eq (tgt := 35) hx hb dX7_judge_25 (by decide) (fun c_26 => ?_) (fun c_26 => ?_)
      · exact absurd c_26 (by decide)
      · refine lv_aload_n hx hb dX7_judge_28 rfl (lv_at hl 2 rfl) ?_
        refine lv_iload hx hb dX7_judge_29 (lv_at hl 0 rfl) ?_
        skip
        refine zw_V (As := [.int 2]) (rest := []) (wr := [(xs, .inl (cS, 8, .inr (.inr (.inr (.inr fh))))), (h0, .inr (4, [.ref e0, .int he, .int si])), (e0, .inl (cJ, 160, .inr (.inl fe))), (j0, .inr (0, [.ref z0, .ref jp, .ref jc, .int cn, .int de, .int tr, .int se, .int hu, .int sd])), (jp, .inl (cP, 8, .inr (.inr (.inr (.inr fp)))))]) ⟨hx, hb, hml, hown, hts⟩ (c_X_refuseLower_2 l D cI cJ cZ cP cS po x0 xs j0 k0 w0 rd mv xr (im) (lf) fr hy0 hy1 hy2 hy3 H.size) (cwV 1 hts gX7_judge_X7_refuseLower rfl rfl rfl ⟨rfl, dh_X7_refuseLower⟩ ⟨Nat.le_of_ble_eq_true rfl, Nat.le_of_ble_eq_true rfl⟩) hK hN (hZ.kept hS) hP hD hS hA [0, 1] [2, 3, 4, 5, 6] rfl rfl (by decide) (by decide) (by decide) (va_recv (q := (RX7, TX7, 9)) hK hP (ci := 7) (q0 := 0) rfl rfl) rfl hl.1 rfl (Nat.le_of_ble_eq_true rfl) dX7_judge_31 ⟨Nat.le_of_ble_eq_true rfl, Nat.le_of_ble_eq_true rfl⟩ (fun r_27 u_28 H locs hr_27 hP hD hS => ?_)
        obtain ⟨q_29, rfl⟩ : ∃ z, z = u_28 := ⟨_, rfl⟩
        have h9R := zRe (ws' := [(xs, .inl (cS, 8, .inr (.inr (.inr (.inr fh))))), (h0, .inr (4, [.ref e0, .int he, .int si])), (e0, .inl (cJ, 160, .inr (.inl fe))), (j0, .inr (0, [.ref z0, .ref jp, .ref jc, .int cn, .int de, .int tr, .int se, .int hu, .int sd])), (jp, .inl (cP, 8, .inr (.inr (.inr (.inr fp))))), (x0, .inr (7, [.ref xs, .ref j0, .ref k0, .ref w0, .ref rd, .ref mv, .ref xr, .int im, .int lf])), (xr, .inl (cI, 8, .inl q_29))]) hP hD rfl
        clear hP hD
        obtain ⟨hP, hD⟩ := h9R
        obtain rfl := hr_27
        exact W.iret (v := (-12)) hx hb hr (fun t ht hW => ⟨⟨(-12), q_29, rfl, ⟨(show ((s_.toInt < 0 ∨ 7 < s_.toInt) ∧ ((-12) : Int32).toInt = -11) ∨ ((0 ≤ s_.toInt ∧ s_.toInt ≤ 7) ∧ ((he.toInt = -1 ∧ ((-12) : Int32).toInt = -13) ∨ (he.toInt ≠ -1 ∧ he.toInt < 100 ∧ ((-12) : Int32).toInt = -12) ∨ (100 ≤ he.toInt ∧ ((n.toInt < 0 ∧ ((-12) : Int32).toInt = -14) ∨ (0 ≤ n.toInt ∧ si.toInt < n.toInt ∧ ((-12) : Int32).toInt = -15) ∨ (0 ≤ n.toInt ∧ n.toInt ≤ si.toInt ∧ 20 < n.toInt ∧ ((-12) : Int32).toInt = -16) ∨ ((0 ≤ n.toInt ∧ n.toInt ≤ si.toInt ∧ n.toInt ≤ 20) ∧ ((-12) : Int32).toInt = zJg kf af tf cn.toInt hu.toInt fe n.toInt.toNat 0 de.toInt se.toInt))))) from by (have k9 : ((-12) : Int32).toInt = -12 := (by decide); omega)), trivial⟩, zRet ht hP hD [5, 6, 0, 1, 2, 3, 4] (by decide) rfl⟩, hS.F ht⟩) hS.2.2 dX7_judge_34
    · refine lv_istore (lv' := [(4, .int 3), (3, .ref h0), (0, .ref x0), (1, .int s_), (2, .int n)]) hx hb dX7_judge_21 hl (by decide) rfl (fun ls hl => ?_)
      refine lv_iload hx hb dX7_judge_23 (lv_at hl 0 rfl) ?_
      refine lv_if_eq (tgt := 35) hx hb dX7_judge_25 (by decide) (fun c_30 => ?_) (fun c_30 => ?_)
      · exact absurd c_30 (by decide)
      · refine lv_aload_n hx hb dX7_judge_28 rfl (lv_at hl 2 rfl) ?_
        refine lv_iload hx hb dX7_judge_29 (lv_at hl 0 rfl) ?_
        skip
        refine zw_V (As := [.int 3]) (rest := []) (wr := [(xs, .inl (cS, 8, .inr (.inr (.inr (.inr fh))))), (h0, .inr (4, [.ref e0, .int he, .int si])), (e0, .inl (cJ, 160, .inr (.inl fe))), (j0, .inr (0, [.ref z0, .ref jp, .ref jc, .int cn, .int de, .int tr, .int se, .int hu, .int sd])), (jp, .inl (cP, 8, .inr (.inr (.inr (.inr fp)))))]) ⟨hx, hb, hml, hown, hts⟩ (c_X_refuseLower_3 l D cI cJ cZ cP cS po x0 xs j0 k0 w0 rd mv xr (im) (lf) fr hy0 hy1 hy2 hy3 H.size) (cwV 1 hts gX7_judge_X7_refuseLower rfl rfl rfl ⟨rfl, dh_X7_refuseLower⟩ ⟨Nat.le_of_ble_eq_true rfl, Nat.le_of_ble_eq_true rfl⟩) hK hN (hZ.kept hS) hP hD hS hA [0, 1] [2, 3, 4, 5, 6] rfl rfl (by decide) (by decide) (by decide) (va_recv (q := (RX7, TX7, 9)) hK hP (ci := 7) (q0 := 0) rfl rfl) rfl hl.1 rfl (Nat.le_of_ble_eq_true rfl) dX7_judge_31 ⟨Nat.le_of_ble_eq_true rfl, Nat.le_of_ble_eq_true rfl⟩ (fun r_31 u_32 H locs hr_31 hP hD hS => ?_)
        obtain ⟨q_33, rfl⟩ : ∃ z, z = u_32 := ⟨_, rfl⟩
        have h9R := zRe (ws' := [(xs, .inl (cS, 8, .inr (.inr (.inr (.inr fh))))), (h0, .inr (4, [.ref e0, .int he, .int si])), (e0, .inl (cJ, 160, .inr (.inl fe))), (j0, .inr (0, [.ref z0, .ref jp, .ref jc, .int cn, .int de, .int tr, .int se, .int hu, .int sd])), (jp, .inl (cP, 8, .inr (.inr (.inr (.inr fp))))), (x0, .inr (7, [.ref xs, .ref j0, .ref k0, .ref w0, .ref rd, .ref mv, .ref xr, .int im, .int lf])), (xr, .inl (cI, 8, .inl q_33))]) hP hD rfl
        clear hP hD
        obtain ⟨hP, hD⟩ := h9R
        obtain rfl := hr_31
        exact W.iret (v := (-13)) hx hb hr (fun t ht hW => ⟨⟨(-13), q_33, rfl, ⟨(show ((s_.toInt < 0 ∨ 7 < s_.toInt) ∧ ((-13) : Int32).toInt = -11) ∨ ((0 ≤ s_.toInt ∧ s_.toInt ≤ 7) ∧ ((he.toInt = -1 ∧ ((-13) : Int32).toInt = -13) ∨ (he.toInt ≠ -1 ∧ he.toInt < 100 ∧ ((-13) : Int32).toInt = -12) ∨ (100 ≤ he.toInt ∧ ((n.toInt < 0 ∧ ((-13) : Int32).toInt = -14) ∨ (0 ≤ n.toInt ∧ si.toInt < n.toInt ∧ ((-13) : Int32).toInt = -15) ∨ (0 ≤ n.toInt ∧ n.toInt ≤ si.toInt ∧ 20 < n.toInt ∧ ((-13) : Int32).toInt = -16) ∨ ((0 ≤ n.toInt ∧ n.toInt ≤ si.toInt ∧ n.toInt ≤ 20) ∧ ((-13) : Int32).toInt = zJg kf af tf cn.toInt hu.toInt fe n.toInt.toNat 0 de.toInt se.toInt))))) from by (have k9 : ((-13) : Int32).toInt = -13 := (by decide); omega)), trivial⟩, zRet ht hP hD [5, 6, 0, 1, 2, 3, 4] (by decide) rfl⟩, hS.F ht⟩) hS.2.2 dX7_judge_34
    · refine lv_istore (lv' := [(4, .int 0), (3, .ref h0), (0, .ref x0), (1, .int s_), (2, .int n)]) hx hb dX7_judge_21 hl (by decide) rfl (fun ls hl => ?_)
      refine lv_iload hx hb dX7_judge_23 (lv_at hl 0 rfl) ?_
      refine lv_if_eq (tgt := 35) hx hb dX7_judge_25 (by decide) (fun c_34 => ?_) (fun c_34 => ?_)
      · refine lv_iload_n hx hb dX7_judge_35 rfl (lv_at hl 4 rfl) ?_
        refine lv_bipush (v := 20) hx hb dX7_judge_36 (by decide) ?_
        refine lv_icmp_le (tgt := 48) hx hb dX7_judge_38 (by decide) (fun c_35 => ?_) (fun c_35 => ?_)
        · have fc_35 : n.toInt ≤ 20 := zf_le c_35 rfl (by decide)
          refine lv_aload_n hx hb dX7_judge_48 rfl (lv_at hl 2 rfl) ?_
          refine lv_aload_n hx hb dX7_judge_49 rfl (lv_at hl 1 rfl) ?_
          refine lv_iload_n hx hb dX7_judge_50 rfl (lv_at hl 4 rfl) ?_
          refine zc_V (As := [.ref h0, .int n]) (rest := []) ⟨hx, hb, hml, hown, hts⟩ (c_F_X_firstWrong l D cI cJ cZ cP cS po x0 xs j0 k0 w0 rd mv xr (im) (lf) ((fun _ => 0)) j0 jp jc z0 0 0 (cn) (de) (tr) (se) (hu) (sd) fp kf af tf h0 e0 (he) (si) fe (n) hy0 hy1 hy2 hy3 hy9 hy10 hy11 hy12 hy13 hy14 hy4 hy5 hy6 hy7 hjp hy16 hy17 (by omega) (by omega) (by omega)) (cwV 2 hts gX7_judge_X7_firstWrong rfl rfl rfl ⟨rfl, dh_X7_firstWrong⟩ ⟨Nat.le_of_ble_eq_true rfl, Nat.le_of_ble_eq_true rfl⟩) hK hN (hZ.kept hS) hP (hP.sub [0, 5, 6, 3, 4] rfl) (va_recv (q := (RX7, TX7, 9)) hK hP (ci := 7) (q0 := 0) rfl rfl) rfl hl.1 rfl (Nat.le_of_ble_eq_true rfl) dX7_judge_51 ⟨Nat.le_of_ble_eq_true rfl, Nat.le_of_ble_eq_true rfl⟩ (fun r_36 hr_36 => ?_)
          have hsr_36_0 := hr_36
          exact W.iret (v := r_36) hx hb hr (fun t ht hW => ⟨⟨r_36, fr, rfl, ⟨(show ((s_.toInt < 0 ∨ 7 < s_.toInt) ∧ (r_36 : Int32).toInt = -11) ∨ ((0 ≤ s_.toInt ∧ s_.toInt ≤ 7) ∧ ((he.toInt = -1 ∧ (r_36 : Int32).toInt = -13) ∨ (he.toInt ≠ -1 ∧ he.toInt < 100 ∧ (r_36 : Int32).toInt = -12) ∨ (100 ≤ he.toInt ∧ ((n.toInt < 0 ∧ (r_36 : Int32).toInt = -14) ∨ (0 ≤ n.toInt ∧ si.toInt < n.toInt ∧ (r_36 : Int32).toInt = -15) ∨ (0 ≤ n.toInt ∧ n.toInt ≤ si.toInt ∧ 20 < n.toInt ∧ (r_36 : Int32).toInt = -16) ∨ ((0 ≤ n.toInt ∧ n.toInt ≤ si.toInt ∧ n.toInt ≤ 20) ∧ (r_36 : Int32).toInt = zJg kf af tf cn.toInt hu.toInt fe n.toInt.toNat 0 de.toInt se.toInt))))) from by (exact Or.inr ⟨by omega, Or.inr (Or.inr ⟨by omega, Or.inr (Or.inr (Or.inr ⟨by omega, hsr_36_0⟩))⟩)⟩)), trivial⟩, zRet ht hP hD [0, 1, 2, 3, 4, 5, 6] (by decide) rfl⟩, hS.F ht⟩) hS.2.2 dX7_judge_54
        · have fc_35 : 20 < n.toInt := zf_nle c_35 rfl (by decide)
          refine lv_aload_n hx hb dX7_judge_41 rfl (lv_at hl 2 rfl) ?_
          refine lv_bipush (v := 6) hx hb dX7_judge_42 (by decide) ?_
          skip
          refine zw_V (As := [.int 6]) (rest := []) (wr := [(xs, .inl (cS, 8, .inr (.inr (.inr (.inr fh))))), (h0, .inr (4, [.ref e0, .int he, .int si])), (e0, .inl (cJ, 160, .inr (.inl fe))), (j0, .inr (0, [.ref z0, .ref jp, .ref jc, .int cn, .int de, .int tr, .int se, .int hu, .int sd])), (jp, .inl (cP, 8, .inr (.inr (.inr (.inr fp)))))]) ⟨hx, hb, hml, hown, hts⟩ (c_X_refuseLower_6 l D cI cJ cZ cP cS po x0 xs j0 k0 w0 rd mv xr (im) (lf) fr hy0 hy1 hy2 hy3 H.size) (cwV 1 hts gX7_judge_X7_refuseLower rfl rfl rfl ⟨rfl, dh_X7_refuseLower⟩ ⟨Nat.le_of_ble_eq_true rfl, Nat.le_of_ble_eq_true rfl⟩) hK hN (hZ.kept hS) hP hD hS hA [0, 1] [2, 3, 4, 5, 6] rfl rfl (by decide) (by decide) (by decide) (va_recv (q := (RX7, TX7, 9)) hK hP (ci := 7) (q0 := 0) rfl rfl) rfl hl.1 rfl (Nat.le_of_ble_eq_true rfl) dX7_judge_44 ⟨Nat.le_of_ble_eq_true rfl, Nat.le_of_ble_eq_true rfl⟩ (fun r_37 u_38 H locs hr_37 hP hD hS => ?_)
          obtain ⟨q_39, rfl⟩ : ∃ z, z = u_38 := ⟨_, rfl⟩
          have h9R := zRe (ws' := [(xs, .inl (cS, 8, .inr (.inr (.inr (.inr fh))))), (h0, .inr (4, [.ref e0, .int he, .int si])), (e0, .inl (cJ, 160, .inr (.inl fe))), (j0, .inr (0, [.ref z0, .ref jp, .ref jc, .int cn, .int de, .int tr, .int se, .int hu, .int sd])), (jp, .inl (cP, 8, .inr (.inr (.inr (.inr fp))))), (x0, .inr (7, [.ref xs, .ref j0, .ref k0, .ref w0, .ref rd, .ref mv, .ref xr, .int im, .int lf])), (xr, .inl (cI, 8, .inl q_39))]) hP hD rfl
          clear hP hD
          obtain ⟨hP, hD⟩ := h9R
          obtain rfl := hr_37
          exact W.iret (v := (-16)) hx hb hr (fun t ht hW => ⟨⟨(-16), q_39, rfl, ⟨(show ((s_.toInt < 0 ∨ 7 < s_.toInt) ∧ ((-16) : Int32).toInt = -11) ∨ ((0 ≤ s_.toInt ∧ s_.toInt ≤ 7) ∧ ((he.toInt = -1 ∧ ((-16) : Int32).toInt = -13) ∨ (he.toInt ≠ -1 ∧ he.toInt < 100 ∧ ((-16) : Int32).toInt = -12) ∨ (100 ≤ he.toInt ∧ ((n.toInt < 0 ∧ ((-16) : Int32).toInt = -14) ∨ (0 ≤ n.toInt ∧ si.toInt < n.toInt ∧ ((-16) : Int32).toInt = -15) ∨ (0 ≤ n.toInt ∧ n.toInt ≤ si.toInt ∧ 20 < n.toInt ∧ ((-16) : Int32).toInt = -16) ∨ ((0 ≤ n.toInt ∧ n.toInt ≤ si.toInt ∧ n.toInt ≤ 20) ∧ ((-16) : Int32).toInt = zJg kf af tf cn.toInt hu.toInt fe n.toInt.toNat 0 de.toInt se.toInt))))) from by (have k9 : ((-16) : Int32).toInt = -16 := (by decide); omega)), trivial⟩, zRet ht hP hD [5, 6, 0, 1, 2, 3, 4] (by decide) rfl⟩, hS.F ht⟩) hS.2.2 dX7_judge_47
      · exact absurd c_34 (by decide)
    · refine lv_istore (lv' := [(4, .int 5), (3, .ref h0), (0, .ref x0), (1, .int s_), (2, .int n)]) hx hb dX7_judge_21 hl (by decide) rfl (fun ls hl => ?_)
      refine lv_iload hx hb dX7_judge_23 (lv_at hl 0 rfl) ?_
      refine lv_if_eq (tgt := 35) hx hb dX7_judge_25 (by decide) (fun c_40 => ?_) (fun c_40 => ?_)
      · exact absurd c_40 (by decide)
      · refine lv_aload_n hx hb dX7_judge_28 rfl (lv_at hl 2 rfl) ?_
        refine lv_iload hx hb dX7_judge_29 (lv_at hl 0 rfl) ?_
        skip
        refine zw_V (As := [.int 5]) (rest := []) (wr := [(xs, .inl (cS, 8, .inr (.inr (.inr (.inr fh))))), (h0, .inr (4, [.ref e0, .int he, .int si])), (e0, .inl (cJ, 160, .inr (.inl fe))), (j0, .inr (0, [.ref z0, .ref jp, .ref jc, .int cn, .int de, .int tr, .int se, .int hu, .int sd])), (jp, .inl (cP, 8, .inr (.inr (.inr (.inr fp)))))]) ⟨hx, hb, hml, hown, hts⟩ (c_X_refuseLower_5 l D cI cJ cZ cP cS po x0 xs j0 k0 w0 rd mv xr (im) (lf) fr hy0 hy1 hy2 hy3 H.size) (cwV 1 hts gX7_judge_X7_refuseLower rfl rfl rfl ⟨rfl, dh_X7_refuseLower⟩ ⟨Nat.le_of_ble_eq_true rfl, Nat.le_of_ble_eq_true rfl⟩) hK hN (hZ.kept hS) hP hD hS hA [0, 1] [2, 3, 4, 5, 6] rfl rfl (by decide) (by decide) (by decide) (va_recv (q := (RX7, TX7, 9)) hK hP (ci := 7) (q0 := 0) rfl rfl) rfl hl.1 rfl (Nat.le_of_ble_eq_true rfl) dX7_judge_31 ⟨Nat.le_of_ble_eq_true rfl, Nat.le_of_ble_eq_true rfl⟩ (fun r_41 u_42 H locs hr_41 hP hD hS => ?_)
        obtain ⟨q_43, rfl⟩ : ∃ z, z = u_42 := ⟨_, rfl⟩
        have h9R := zRe (ws' := [(xs, .inl (cS, 8, .inr (.inr (.inr (.inr fh))))), (h0, .inr (4, [.ref e0, .int he, .int si])), (e0, .inl (cJ, 160, .inr (.inl fe))), (j0, .inr (0, [.ref z0, .ref jp, .ref jc, .int cn, .int de, .int tr, .int se, .int hu, .int sd])), (jp, .inl (cP, 8, .inr (.inr (.inr (.inr fp))))), (x0, .inr (7, [.ref xs, .ref j0, .ref k0, .ref w0, .ref rd, .ref mv, .ref xr, .int im, .int lf])), (xr, .inl (cI, 8, .inl q_43))]) hP hD rfl
        clear hP hD
        obtain ⟨hP, hD⟩ := h9R
        obtain rfl := hr_41
        exact W.iret (v := (-15)) hx hb hr (fun t ht hW => ⟨⟨(-15), q_43, rfl, ⟨(show ((s_.toInt < 0 ∨ 7 < s_.toInt) ∧ ((-15) : Int32).toInt = -11) ∨ ((0 ≤ s_.toInt ∧ s_.toInt ≤ 7) ∧ ((he.toInt = -1 ∧ ((-15) : Int32).toInt = -13) ∨ (he.toInt ≠ -1 ∧ he.toInt < 100 ∧ ((-15) : Int32).toInt = -12) ∨ (100 ≤ he.toInt ∧ ((n.toInt < 0 ∧ ((-15) : Int32).toInt = -14) ∨ (0 ≤ n.toInt ∧ si.toInt < n.toInt ∧ ((-15) : Int32).toInt = -15) ∨ (0 ≤ n.toInt ∧ n.toInt ≤ si.toInt ∧ 20 < n.toInt ∧ ((-15) : Int32).toInt = -16) ∨ ((0 ≤ n.toInt ∧ n.toInt ≤ si.toInt ∧ n.toInt ≤ 20) ∧ ((-15) : Int32).toInt = zJg kf af tf cn.toInt hu.toInt fe n.toInt.toNat 0 de.toInt se.toInt))))) from by (have k9 : ((-15) : Int32).toInt = -15 := (by decide); omega)), trivial⟩, zRet ht hP hD [5, 6, 0, 1, 2, 3, 4] (by decide) rfl⟩, hS.F ht⟩) hS.2.2 dX7_judge_34
    · refine lv_istore (lv' := [(4, .int 4), (3, .ref h0), (0, .ref x0), (1, .int s_), (2, .int n)]) hx hb dX7_judge_21 hl (by decide) rfl (fun ls hl => ?_)
      refine lv_iload hx hb dX7_judge_23 (lv_at hl 0 rfl) ?_
      refine lv_if_eq (tgt := 35) hx hb dX7_judge_25 (by decide) (fun c_44 => ?_) (fun c_44 => ?_)
      · exact absurd c_44 (by decide)
      · refine lv_aload_n hx hb dX7_judge_28 rfl (lv_at hl 2 rfl) ?_
        refine lv_iload hx hb dX7_judge_29 (lv_at hl 0 rfl) ?_
        skip
        refine zw_V (As := [.int 4]) (rest := []) (wr := [(xs, .inl (cS, 8, .inr (.inr (.inr (.inr fh))))), (h0, .inr (4, [.ref e0, .int he, .int si])), (e0, .inl (cJ, 160, .inr (.inl fe))), (j0, .inr (0, [.ref z0, .ref jp, .ref jc, .int cn, .int de, .int tr, .int se, .int hu, .int sd])), (jp, .inl (cP, 8, .inr (.inr (.inr (.inr fp)))))]) ⟨hx, hb, hml, hown, hts⟩ (c_X_refuseLower_4 l D cI cJ cZ cP cS po x0 xs j0 k0 w0 rd mv xr (im) (lf) fr hy0 hy1 hy2 hy3 H.size) (cwV 1 hts gX7_judge_X7_refuseLower rfl rfl rfl ⟨rfl, dh_X7_refuseLower⟩ ⟨Nat.le_of_ble_eq_true rfl, Nat.le_of_ble_eq_true rfl⟩) hK hN (hZ.kept hS) hP hD hS hA [0, 1] [2, 3, 4, 5, 6] rfl rfl (by decide) (by decide) (by decide) (va_recv (q := (RX7, TX7, 9)) hK hP (ci := 7) (q0 := 0) rfl rfl) rfl hl.1 rfl (Nat.le_of_ble_eq_true rfl) dX7_judge_31 ⟨Nat.le_of_ble_eq_true rfl, Nat.le_of_ble_eq_true rfl⟩ (fun r_45 u_46 H locs hr_45 hP hD hS => ?_)
        obtain ⟨q_47, rfl⟩ : ∃ z, z = u_46 := ⟨_, rfl⟩
        have h9R := zRe (ws' := [(xs, .inl (cS, 8, .inr (.inr (.inr (.inr fh))))), (h0, .inr (4, [.ref e0, .int he, .int si])), (e0, .inl (cJ, 160, .inr (.inl fe))), (j0, .inr (0, [.ref z0, .ref jp, .ref jc, .int cn, .int de, .int tr, .int se, .int hu, .int sd])), (jp, .inl (cP, 8, .inr (.inr (.inr (.inr fp))))), (x0, .inr (7, [.ref xs, .ref j0, .ref k0, .ref w0, .ref rd, .ref mv, .ref xr, .int im, .int lf])), (xr, .inl (cI, 8, .inl q_47))]) hP hD rfl
        clear hP hD
        obtain ⟨hP, hD⟩ := h9R
        obtain rfl := hr_45
        exact W.iret (v := (-14)) hx hb hr (fun t ht hW => ⟨⟨(-14), q_47, rfl, ⟨(show ((s_.toInt < 0 ∨ 7 < s_.toInt) ∧ ((-14) : Int32).toInt = -11) ∨ ((0 ≤ s_.toInt ∧ s_.toInt ≤ 7) ∧ ((he.toInt = -1 ∧ ((-14) : Int32).toInt = -13) ∨ (he.toInt ≠ -1 ∧ he.toInt < 100 ∧ ((-14) : Int32).toInt = -12) ∨ (100 ≤ he.toInt ∧ ((n.toInt < 0 ∧ ((-14) : Int32).toInt = -14) ∨ (0 ≤ n.toInt ∧ si.toInt < n.toInt ∧ ((-14) : Int32).toInt = -15) ∨ (0 ≤ n.toInt ∧ n.toInt ≤ si.toInt ∧ 20 < n.toInt ∧ ((-14) : Int32).toInt = -16) ∨ ((0 ≤ n.toInt ∧ n.toInt ≤ si.toInt ∧ n.toInt ≤ 20) ∧ ((-14) : Int32).toInt = zJg kf af tf cn.toInt hu.toInt fe n.toInt.toNat 0 de.toInt se.toInt))))) from by (have k9 : ((-14) : Int32).toInt = -14 := (by decide); omega)), trivial⟩, zRet ht hP hD [5, 6, 0, 1, 2, 3, 4] (by decide) rfl⟩, hS.F ht⟩) hS.2.2 dX7_judge_34

