set_option maxHeartbeats 4000000 in
set_option maxRecDepth 100000 in
theorem c_F_J_pullFree (l : Launch) (D : va_G) (cI cJ cZ cP cS : ClassId) (po : zPool) (w0 wk wl wc wp : Nat) (wn wh wg : Int32) (j0 jp jc z0 zl zs : Nat) (cn de tr se hu sd : Int32) (fp fq : Nat → Option Nat) (kf af tf : Nat → Int32) (tw : Int32) (fk : Nat → Int32) (hy0 : 0 ≤ wn.toInt) (hy1 : wn.toInt ≤ 8) (hy2 : 0 ≤ wh.toInt) (hy3 : wh.toInt ≤ 9) (hy4 : 0 ≤ wg.toInt) (hy5 : wg.toInt ≤ 60) (hy6 : 0 ≤ cn.toInt) (hy7 : cn.toInt ≤ 8) (hy8 : 0 ≤ de.toInt) (hy9 : de.toInt ≤ 24) (hy10 : 0 ≤ hu.toInt) (hy11 : hu.toInt ≤ 9) (hjw : zJW po fq wn kf af tf tw) (hkm : zKm kf af tf wn.toInt.toNat wh.toInt tw.toInt wg.toInt fk) (hgl : (∀ p : Nat, p < wn.toInt.toNat → (tw.toInt ≠ 0 ∨ (kf p).toInt ≠ 5) → (tf p).toInt ≤ wg.toInt)) (hy15 : wn.toInt = cn.toInt) (hy16 : wh.toInt = hu.toInt) (htw : tw.toInt = 1) (hy18 : 0 ≤ se.toInt) (hy19 : se.toInt ≤ 300) (hjp : zJP po fp cn kf af tf) (hpz : Nat) : Met l yX0_pullFreeInTruth wsX0_pullFreeInTruth ({ frames := 6, cells := 0, slots := 0, locals := 154 }) (va_Pc [.ref j0, .ref w0] (zW D (zKT cI cJ cZ cP cS) po [(w0, .inr (5, [.ref wk, .ref wl, .ref wc, .ref wp, .int wn, .int wh, .int wg])), (wk, .inl (cI, 125, .inl fk)), (wp, .inl (cP, 8, .inr (.inr (.inr (.inr fq))))), (j0, .inr (0, [.ref z0, .ref jp, .ref jc, .int cn, .int de, .int tr, .int se, .int hu, .int sd])), (jp, .inl (cP, 8, .inr (.inr (.inr (.inr fp)))))] hpz)) (va_Qv (fun (u : (Int32) × (Int32) × (Int32) × (Int32) × (Nat → Int32)) => (0 ≤ u.1.toInt ∧ u.1.toInt ≤ 24) ∧ (zPf kf af tf cn.toInt.toNat hu.toInt 12 (de.toInt, se.toInt, tr, sd) = (u.1.toInt, u.2.2.1.toInt, u.2.1, u.2.2.2.1)) ∧ (zKm kf af tf wn.toInt.toNat wh.toInt tw.toInt wg.toInt u.2.2.2.2) ∧ (0 ≤ u.2.2.1.toInt ∧ u.2.2.1.toInt ≤ 300) ∧ (True)) (zB D [(w0, .inr (5, [.ref wk, .ref wl, .ref wc, .ref wp, .int wn, .int wh, .int wg])), (wk, .inl (cI, 125, .inl fk)), (wp, .inl (cP, 8, .inr (.inr (.inr (.inr fq))))), (j0, .inr (0, [.ref z0, .ref jp, .ref jc, .int cn, .int de, .int tr, .int se, .int hu, .int sd])), (jp, .inl (cP, 8, .inr (.inr (.inr (.inr fp)))))] hpz (fun (u : (Int32) × (Int32) × (Int32) × (Int32) × (Nat → Int32)) => [(w0, .inr (5, [.ref wk, .ref wl, .ref wc, .ref wp, .int wn, .int wh, .int wg])), (wk, .inl (cI, 125, .inl u.2.2.2.2)), (wp, .inl (cP, 8, .inr (.inr (.inr (.inr fq))))), (j0, .inr (0, [.ref z0, .ref jp, .ref jc, .int cn, .int u.1, .int u.2.1, .int u.2.2.1, .int hu, .int u.2.2.2.1])), (jp, .inl (cP, 8, .inr (.inr (.inr (.inr fp)))))])) (va_A [(w0, .inr (5, [.ref wk, .ref wl, .ref wc, .ref wp, .int wn, .int wh, .int wg])), (wk, .inl (cI, 125, .inl fk)), (wp, .inl (cP, 8, .inr (.inr (.inr (.inr fq))))), (j0, .inr (0, [.ref z0, .ref jp, .ref jc, .int cn, .int de, .int tr, .int se, .int hu, .int sd])), (jp, .inl (cP, 8, .inr (.inr (.inr (.inr fp)))))] hpz)) 0 0 (va_A [(w0, .inr (5, [.ref wk, .ref wl, .ref wc, .ref wp, .int wn, .int wh, .int wg])), (wk, .inl (cI, 125, .inl fk)), (wp, .inl (cP, 8, .inr (.inr (.inr (.inr fq))))), (j0, .inr (0, [.ref z0, .ref jp, .ref jc, .int cn, .int de, .int tr, .int se, .int hu, .int sd])), (jp, .inl (cP, 8, .inr (.inr (.inr (.inr fp)))))] hpz) := by
  refine Met.ofW (cc := cX0_pullFreeInTruth) (maxL := 4) (ret := none) (by decide) rfl ?_
  intro p e s m args below meth c s₁ B hml hv
  obtain ⟨rfl, hsz, hP, hK, hD0, hN, hZ⟩ := hv
  have hx := B.exec
  have hb := B.bytes
  have hr := B.returns
  have hts := atoms_spec (ws := wsX0_pullFreeInTruth) B.pre
  have hown : s.vm.findClass RX0 = some m.cls := findClass_of_methodNamed B.named
  have hlocks := B.notSynchronized
  subst hsz
  have hD := hD0.self (sz := s.heap.size)
  have hA := zA_of hD
  have hl := lv_entry ([.ref j0, .ref w0]) (n := 4) (Nat.le_of_ble_eq_true rfl)
  rw [lg_entry_eq]
  generalize (lg_sl ([.ref j0, .ref w0]) ++ List.replicate (4 - (lg_sl ([.ref j0, .ref w0])).length) Slot.unset).toArray = ls at hl ⊢
  replace hl : lv_has ls 4 [(0, .ref j0), (1, .ref w0)] := hl
  refine zw_begin hP hD (fun H locs hP1 hS => ?_)
  clear hP
  have hP := hP1
  clear hP1
  refine lv_iconst (v := 0) hx hb dX0_pullFreeInTruth_0 (by decide) ?_
  refine lv_istore_n (lv' := [(2, .int 0), (0, .ref j0), (1, .ref w0)]) hx hb dX0_pullFreeInTruth_1 rfl hl (by decide) rfl (fun ls hl => ?_)
  obtain ⟨i_2, hi_2⟩ : ∃ i : Int32, i = 0 := ⟨_, rfl⟩
  replace hl : lv_has ls 4 [(2, .int i_2), (0, .ref j0), (1, .ref w0)] := by rw [hi_2]; exact lv_sub hl [0, 1, 2] rfl
  have h1i_2 : i_2.toInt = 0 := by rw [hi_2]; decide
  obtain ⟨nfu, hni_2⟩ : ∃ nq9 : Nat, 12 ≤ i_2.toInt + (nq9 : Int) := ⟨((12 : Int) - 0).toNat, by omega⟩
  have hloi_2 : 0 ≤ i_2.toInt := by omega
  obtain ⟨g_1, hg_1⟩ : ∃ g : Nat → Int32, g = fk := ⟨_, rfl⟩
  obtain ⟨v_2, hv_2⟩ : ∃ g : Int32, g = de := ⟨_, rfl⟩
  have hbv_2 : 0 ≤ v_2.toInt ∧ v_2.toInt ≤ 24 := by rw [hv_2]; exact ⟨by omega, by omega⟩
  obtain ⟨v_3, hv_3⟩ : ∃ g : Int32, g = tr := ⟨_, rfl⟩
  obtain ⟨v_4, hv_4⟩ : ∃ g : Int32, g = se := ⟨_, rfl⟩
  have hbv_4 : 0 ≤ v_4.toInt ∧ v_4.toInt ≤ 300 := by rw [hv_4]; exact ⟨by omega, by omega⟩
  obtain ⟨v_5, hv_5⟩ : ∃ g : Int32, g = sd := ⟨_, rfl⟩
  replace hP : va_P D vwCl [(w0, .inr (5, [.ref wk, .ref wl, .ref wc, .ref wp, .int wn, .int wh, .int wg])), (wk, .inl (cI, 125, .inl g_1)), (wp, .inl (cP, 8, .inr (.inr (.inr (.inr fq))))), (j0, .inr (0, [.ref z0, .ref jp, .ref jc, .int cn, .int v_2, .int v_3, .int v_4, .int hu, .int v_5])), (jp, .inl (cP, 8, .inr (.inr (.inr (.inr fp)))))] H := by rw [hg_1, hv_2, hv_3, hv_4, hv_5]; exact hP
  replace hD : va_D (va_A [(w0, .inr (5, [.ref wk, .ref wl, .ref wc, .ref wp, .int wn, .int wh, .int wg])), (wk, .inl (cI, 125, .inl fk)), (wp, .inl (cP, 8, .inr (.inr (.inr (.inr fq))))), (j0, .inr (0, [.ref z0, .ref jp, .ref jc, .int cn, .int de, .int tr, .int se, .int hu, .int sd])), (jp, .inl (cP, 8, .inr (.inr (.inr (.inr fp)))))] s.heap.size) [(w0, .inr (5, [.ref wk, .ref wl, .ref wc, .ref wp, .int wn, .int wh, .int wg])), (wk, .inl (cI, 125, .inl g_1)), (wp, .inl (cP, 8, .inr (.inr (.inr (.inr fq))))), (j0, .inr (0, [.ref z0, .ref jp, .ref jc, .int cn, .int v_2, .int v_3, .int v_4, .int hu, .int v_5])), (jp, .inl (cP, 8, .inr (.inr (.inr (.inr fp)))))] := by rw [hg_1, hv_2, hv_3, hv_4, hv_5]; exact hD
  have hvi_2_0 : zPf kf af tf cn.toInt.toNat hu.toInt 12 (de.toInt, se.toInt, tr, sd) = zPf kf af tf cn.toInt.toNat hu.toInt (12 - i_2.toInt).toNat ((v_2 : Int32).toInt, (v_4 : Int32).toInt, (v_3 : Int32), (v_5 : Int32)) := by
    (try rw [hi_2]); (try rw [hg_1]); (try rw [hv_2]); (try rw [hv_3]); (try rw [hv_4]); (try rw [hv_5]); (rw [show (12 - (0 : Int32).toInt).toNat = 12 from by decide])
  have hvi_2_1 : zKm kf af tf wn.toInt.toNat wh.toInt tw.toInt wg.toInt g_1 := by
    (try rw [hi_2]); (try rw [hg_1]); (try rw [hv_2]); (try rw [hv_3]); (try rw [hv_4]); (try rw [hv_5]); exact hkm
  have hvi_2_2 : i_2.toInt ≤ 12 := by
    (try rw [hi_2]); (try rw [hg_1]); (try rw [hv_2]); (try rw [hv_3]); (try rw [hv_4]); (try rw [hv_5]); (have k0 : (0 : Int32).toInt = 0 := (by decide); omega)
  clear h1i_2 hi_2 hg_1 hv_2 hv_3 hv_4 hv_5
  skip
  revert hni_2
  revert hloi_2
  revert hvi_2_2
  revert hvi_2_1
  revert hvi_2_0
  revert hbv_4
  revert hbv_2
  revert hl
  revert hS
  revert hD
  revert hP
  revert ls
  revert locs
  revert H
  revert g_1
  revert v_2
  revert v_3
  revert v_4
  revert v_5
  revert i_2
  induction nfu with
  | zero =>
    intro i_2 v_5 v_4 v_3 v_2 g_1 H locs ls hP hD hS hl hbv_2 hbv_4 hvi_2_0 hvi_2_1 hvi_2_2 hloi_2 hni_2
    have hzi_2 : 12 ≤ i_2.toInt := by omega
    refine lv_iload_n hx hb dX0_pullFreeInTruth_2 rfl (lv_at hl 0 rfl) ?_
    refine lv_bipush (v := 12) hx hb dX0_pullFreeInTruth_3 (by decide) ?_
    refine lv_icmp_ge (tgt := 49) hx hb dX0_pullFreeInTruth_5 (by decide) (fun c_6 => ?_) (fun c_6 => ?_)
    · have fc_6 : 12 ≤ i_2.toInt := zf_le c_6 (by decide) rfl
      exact W.vret hx hb hr (fun t ht hW => ⟨⟨(v_2, v_3, v_4, v_5, g_1), rfl, ⟨(show 0 ≤ v_2.toInt ∧ v_2.toInt ≤ 24 from hbv_2), (show zPf kf af tf cn.toInt.toNat hu.toInt 12 (de.toInt, se.toInt, tr, sd) = (v_2.toInt, v_4.toInt, v_3, v_5) from by (rw [hvi_2_0]; first | (exact zPf_stop (Or.inl (by dsimp only; omega)) _) | (rw [show (12 - i_2.toInt).toNat = 0 from by omega]; rfl))), (show zKm kf af tf wn.toInt.toNat wh.toInt tw.toInt wg.toInt g_1 from by exact hvi_2_1), (show 0 ≤ v_4.toInt ∧ v_4.toInt ≤ 300 from by exact ⟨by omega, by omega⟩), trivial⟩, zRet ht hP hD [0, 1, 2, 3, 4] (by decide) rfl⟩, hS.F ht⟩) hS.2.2 dX0_pullFreeInTruth_49
    · exfalso; have fc_6 : i_2.toInt < 12 := zf_nle c_6 (by decide) rfl; omega
  | succ nfu ih =>
    intro i_2 v_5 v_4 v_3 v_2 g_1 H locs ls hP hD hS hl hbv_2 hbv_4 hvi_2_0 hvi_2_1 hvi_2_2 hloi_2 hni_2
    refine lv_iload_n hx hb dX0_pullFreeInTruth_2 rfl (lv_at hl 0 rfl) ?_
    refine lv_bipush (v := 12) hx hb dX0_pullFreeInTruth_3 (by decide) ?_
    refine lv_icmp_ge (tgt := 49) hx hb dX0_pullFreeInTruth_5 (by decide) (fun c_7 => ?_) (fun c_7 => ?_)
    · have fc_7 : 12 ≤ i_2.toInt := zf_le c_7 (by decide) rfl
      exact W.vret hx hb hr (fun t ht hW => ⟨⟨(v_2, v_3, v_4, v_5, g_1), rfl, ⟨(show 0 ≤ v_2.toInt ∧ v_2.toInt ≤ 24 from hbv_2), (show zPf kf af tf cn.toInt.toNat hu.toInt 12 (de.toInt, se.toInt, tr, sd) = (v_2.toInt, v_4.toInt, v_3, v_5) from by (rw [hvi_2_0]; first | (exact zPf_stop (Or.inl (by dsimp only; omega)) _) | (rw [show (12 - i_2.toInt).toNat = 0 from by omega]; rfl))), (show zKm kf af tf wn.toInt.toNat wh.toInt tw.toInt wg.toInt g_1 from by exact hvi_2_1), (show 0 ≤ v_4.toInt ∧ v_4.toInt ≤ 300 from by exact ⟨by omega, by omega⟩), trivial⟩, zRet ht hP hD [0, 1, 2, 3, 4] (by decide) rfl⟩, hS.F ht⟩) hS.2.2 dX0_pullFreeInTruth_49
    · have fc_7 : i_2.toInt < 12 := zf_nle c_7 (by decide) rfl
      refine lv_aload_n hx hb dX0_pullFreeInTruth_8 rfl (lv_at hl 1 rfl) ?_
      refine va_get (D := D) (ci := 0) (v := .int v_2) (C := RX0) (T := TX0) (N := 9) hx hb hts hi_X0_pullFreeInTruth_0 hown hK hP 3 rfl rfl 4 (by decide) (hts (.fieldLink RX0 32 "TheLiningsInIt$Jacket" "depth" "I") (List.mem_of_getElem? (i := 1) rfl)) (fun _ h9 => h9) rfl dX0_pullFreeInTruth_9 ?_
      refine lv_if_eq (tgt := 49) hx hb dX0_pullFreeInTruth_12 (by decide) (fun c_8 => ?_) (fun c_8 => ?_)
      · have fc_8 : v_2.toInt = 0 := zf_eq c_8 rfl (by decide)
        exact W.vret hx hb hr (fun t ht hW => ⟨⟨(v_2, v_3, v_4, v_5, g_1), rfl, ⟨(show 0 ≤ v_2.toInt ∧ v_2.toInt ≤ 24 from hbv_2), (show zPf kf af tf cn.toInt.toNat hu.toInt 12 (de.toInt, se.toInt, tr, sd) = (v_2.toInt, v_4.toInt, v_3, v_5) from by (rw [hvi_2_0]; first | (exact zPf_stop (Or.inl (by dsimp only; omega)) _) | (rw [show (12 - i_2.toInt).toNat = 0 from by omega]; rfl))), (show zKm kf af tf wn.toInt.toNat wh.toInt tw.toInt wg.toInt g_1 from by exact hvi_2_1), (show 0 ≤ v_4.toInt ∧ v_4.toInt ≤ 300 from by exact ⟨by omega, by omega⟩), trivial⟩, zRet ht hP hD [0, 1, 2, 3, 4] (by decide) rfl⟩, hS.F ht⟩) hS.2.2 dX0_pullFreeInTruth_49
      · have fc_8 : v_2.toInt ≠ 0 := zf_ne c_8 rfl (by decide)
        refine lv_aload_n hx hb dX0_pullFreeInTruth_15 rfl (lv_at hl 1 rfl) ?_
        refine lv_aload_n hx hb dX0_pullFreeInTruth_16 rfl (lv_at hl 2 rfl) ?_
        refine lv_iconst (v := 2) hx hb dX0_pullFreeInTruth_17 (by decide) ?_
        refine lv_aload_n hx hb dX0_pullFreeInTruth_18 rfl (lv_at hl 1 rfl) ?_
        refine va_get (D := D) (ci := 0) (v := .int v_2) (C := RX0) (T := TX0) (N := 9) hx hb hts hi_X0_pullFreeInTruth_0 hown hK hP 3 rfl rfl 4 (by decide) (hts (.fieldLink RX0 32 "TheLiningsInIt$Jacket" "depth" "I") (List.mem_of_getElem? (i := 1) rfl)) (fun _ h9 => h9) rfl dX0_pullFreeInTruth_19 ?_
        refine lv_aload_n hx hb dX0_pullFreeInTruth_22 rfl (lv_at hl 1 rfl) ?_
        refine va_get (D := D) (ci := 0) (v := .int v_4) (C := RX0) (T := TX0) (N := 9) hx hb hts hi_X0_pullFreeInTruth_0 hown hK hP 3 rfl rfl 6 (by decide) (hts (.fieldLink RX0 38 "TheLiningsInIt$Jacket" "seconds" "I") (List.mem_of_getElem? (i := 2) rfl)) (fun _ h9 => h9) rfl dX0_pullFreeInTruth_23 ?_
        skip
        refine zw_V (As := [.int 2, .int v_2, .int v_4]) (rest := [.ref j0]) (wr := [(j0, .inr (0, [.ref z0, .ref jp, .ref jc, .int cn, .int v_2, .int v_3, .int v_4, .int hu, .int v_5])), (jp, .inl (cP, 8, .inr (.inr (.inr (.inr fp)))))]) ⟨hx, hb, hml, hown, hts⟩ (c_F_W_next_2 l D cI cJ cZ cP cS po w0 wk wl wc wp (wn) (wh) (wg) fq kf af tf (tw) g_1 (v_2) (v_4) hy0 hy1 hy2 hy3 hy4 hy5 hjw (by first | assumption | omega) (by first | assumption | omega) hbv_2.1 hbv_2.2 hbv_4.1 hbv_4.2 H.size) (cwV 3 hts gX0_pullFreeInTruth_X5_next rfl rfl rfl ⟨rfl, dh_X5_next⟩ ⟨Nat.le_of_ble_eq_true rfl, Nat.le_of_ble_eq_true rfl⟩) hK hN (hZ.kept hS) hP hD hS hA [0, 1, 2] [3, 4] rfl rfl (by decide) (by decide) (by decide) (va_recv (q := (RX5, TX5, 7)) hK hP (ci := 5) (q0 := 0) rfl rfl) rfl hl.1 rfl (Nat.le_of_ble_eq_true rfl) dX0_pullFreeInTruth_26 ⟨Nat.le_of_ble_eq_true rfl, Nat.le_of_ble_eq_true rfl⟩ (fun r_9 u_10 H locs hr_9 hP hD hS => ?_)
        obtain ⟨q_11, rfl⟩ : ∃ z, z = u_10 := ⟨_, rfl⟩
        obtain ⟨hsr_9_0, hsr_9_1, hr_9⟩ := hr_9
        have h9R := zRe (ws' := [(j0, .inr (0, [.ref z0, .ref jp, .ref jc, .int cn, .int v_2, .int v_3, .int v_4, .int hu, .int v_5])), (jp, .inl (cP, 8, .inr (.inr (.inr (.inr fp))))), (w0, .inr (5, [.ref wk, .ref wl, .ref wc, .ref wp, .int wn, .int wh, .int wg])), (wk, .inl (cI, 125, .inl q_11)), (wp, .inl (cP, 8, .inr (.inr (.inr (.inr fq)))))]) hP hD rfl
        clear hP hD
        obtain ⟨hP, hD⟩ := h9R
        obtain ⟨g_12, g_13⟩ := hr_9
        have zxr_9 : r_9.toInt = zNq kf af tf cn.toInt.toNat hu.toInt 2 v_2.toInt v_4.toInt := by (have z := hsr_9_1; unfold zNq; rw [if_neg (by decide), show ((2 : Int) - 1).toNat = 1 from by decide, show cn.toInt.toNat = wn.toInt.toNat from by omega, show hu.toInt = wh.toInt from by omega, ← htw]; exact z)
        have zgr_9 := zNq_rg (K := kf) (A := af) (T := tf) (N := cn.toInt.toNat) (h := hu.toInt) (n := 2) (d := v_2.toInt) (s := v_4.toInt)
        rw [← zxr_9] at zgr_9
        refine zc_Vq (As := [.int r_9]) (rest := []) ⟨hx, hb, hml, hown, hts⟩ (c_F_J_pullAt l D cI cJ cZ cP cS po j0 jp jc z0 0 0 (cn) (v_2) (v_3) (v_4) (hu) (v_5) fp kf af tf (r_9) hy6 hy7 hbv_2.1 hbv_2.2 hy10 hy11 hjp) (cwV 1 hts gX0_pullFreeInTruth_X0_pullAt rfl rfl rfl ⟨rfl, dh_X0_pullAt⟩ ⟨Nat.le_of_ble_eq_true rfl, Nat.le_of_ble_eq_true rfl⟩) hK hN (hZ.kept hS) hP (hP.sub [0, 1] rfl) (va_recv (q := (RX0, TX0, 9)) hK hP (ci := 0) (q0 := 0) rfl rfl) rfl hl.1 rfl (Nat.le_of_ble_eq_true rfl) dX0_pullFreeInTruth_29 ⟨Nat.le_of_ble_eq_true rfl, Nat.le_of_ble_eq_true rfl⟩ (fun r_14 hr_14 => ?_)
        rcases hr_14 with ⟨rfl, g_15⟩ | ⟨rfl, g_16, g_17⟩ | ⟨⟨u_19, kiu_19, au_19, tu_19, rfl, huu_19, hkku_19⟩, g_18⟩
        · refine lv_astore_nN (lv' := [(3, .null), (2, .int i_2), (0, .ref j0), (1, .ref w0)]) hx hb dX0_pullFreeInTruth_32 rfl hl (by decide) rfl (fun ls hl => ?_)
          refine lv_aload_nN hx hb dX0_pullFreeInTruth_33 rfl (lv_at hl 0 rfl) ?_
          refine lv_ifnonnullN hx hb dX0_pullFreeInTruth_34 ?_
          exact W.vret hx hb hr (fun t ht hW => ⟨⟨(v_2, v_3, v_4, v_5, q_11), rfl, ⟨(show 0 ≤ v_2.toInt ∧ v_2.toInt ≤ 24 from hbv_2), (show zPf kf af tf cn.toInt.toNat hu.toInt 12 (de.toInt, se.toInt, tr, sd) = (v_2.toInt, v_4.toInt, v_3, v_5) from by (rw [hvi_2_0]; exact zPf_stop (Or.inr (by dsimp only; rw [← zxr_9]; omega)) _)), (show zKm kf af tf wn.toInt.toNat wh.toInt tw.toInt wg.toInt q_11 from by exact hsr_9_0), (show 0 ≤ v_4.toInt ∧ v_4.toInt ≤ 300 from by exact ⟨by omega, by omega⟩), trivial⟩, zRet ht hP hD [2, 3, 4, 0, 1] (by decide) rfl⟩, hS.F ht⟩) hS.2.2 dX0_pullFreeInTruth_37
        · refine lv_astore_nN (lv' := [(3, .null), (2, .int i_2), (0, .ref j0), (1, .ref w0)]) hx hb dX0_pullFreeInTruth_32 rfl hl (by decide) rfl (fun ls hl => ?_)
          refine lv_aload_nN hx hb dX0_pullFreeInTruth_33 rfl (lv_at hl 0 rfl) ?_
          refine lv_ifnonnullN hx hb dX0_pullFreeInTruth_34 ?_
          exact W.vret hx hb hr (fun t ht hW => ⟨⟨(v_2, v_3, v_4, v_5, q_11), rfl, ⟨(show 0 ≤ v_2.toInt ∧ v_2.toInt ≤ 24 from hbv_2), (show zPf kf af tf cn.toInt.toNat hu.toInt 12 (de.toInt, se.toInt, tr, sd) = (v_2.toInt, v_4.toInt, v_3, v_5) from by (rw [hvi_2_0]; exact zPf_stop (Or.inr (by dsimp only; rw [← zxr_9]; omega)) _)), (show zKm kf af tf wn.toInt.toNat wh.toInt tw.toInt wg.toInt q_11 from by exact hsr_9_0), (show 0 ≤ v_4.toInt ∧ v_4.toInt ≤ 300 from by exact ⟨by omega, by omega⟩), trivial⟩, zRet ht hP hD [2, 3, 4, 0, 1] (by decide) rfl⟩, hS.F ht⟩) hS.2.2 dX0_pullFreeInTruth_37
        · refine W.eq (g2 := F0 m 32 ls (.ref u_19 :: [])) rfl ?_
          obtain ⟨hku_19, hau_19, htu_19⟩ := zPu_pr (hZ.kept hS) huu_19
          refine lv_astore_n (lv' := [(3, .ref u_19), (2, .int i_2), (0, .ref j0), (1, .ref w0)]) hx hb dX0_pullFreeInTruth_32 rfl hl (by decide) rfl (fun ls hl => ?_)
          refine lv_aload_n hx hb dX0_pullFreeInTruth_33 rfl (lv_at hl 0 rfl) ?_
          refine lv_ifnonnull (tgt := 38) hx hb dX0_pullFreeInTruth_34 (by decide) ?_
          obtain ⟨⟨yau_19, ybu_19, ycu_19⟩, ydu_19, yeu_19⟩ := hkku_19
          have y9u_19 : r_9.toNatClampNeg = r_9.toInt.toNat := rfl
          rw [y9u_19] at yau_19 ybu_19 ycu_19
          have yfu_19 : tu_19.toInt ≤ v_4.toInt := by (rcases zgr_9 with z | z; (omega); (rw [ycu_19]; exact z.2.2.2))
          refine lv_aload_n hx hb dX0_pullFreeInTruth_38 rfl (lv_at hl 2 rfl) ?_
          refine lv_aload_n hx hb dX0_pullFreeInTruth_39 rfl (lv_at hl 0 rfl) ?_
          skip
          refine zw_Vv (As := [.ref u_19]) (rest := []) (wr := [(jp, .inl (cP, 8, .inr (.inr (.inr (.inr fp))))), (w0, .inr (5, [.ref wk, .ref wl, .ref wc, .ref wp, .int wn, .int wh, .int wg])), (wk, .inl (cI, 125, .inl q_11)), (wp, .inl (cP, 8, .inr (.inr (.inr (.inr fq)))))]) ⟨hx, hb, hml, hown, hts⟩ (c_F_J_pullInTruth l D cI cJ cZ cP cS po j0 jp jc z0 0 0 (cn) (v_2) (v_3) (v_4) (hu) (v_5) u_19 (kiu_19) (au_19) (tu_19) huu_19 ⟨by omega, by omega, by omega, by omega⟩ hy6 hy7 hbv_2.1 hbv_2.2 hy10 hy11 hbv_4.1 hbv_4.2 (by omega) H.size) (cwV 1 hts gX0_pullFreeInTruth_X0_pullInTruth rfl rfl rfl ⟨rfl, dh_X0_pullInTruth⟩ ⟨Nat.le_of_ble_eq_true rfl, Nat.le_of_ble_eq_true rfl⟩) hK hN (hZ.kept hS) hP hD hS hA [0] [1, 2, 3, 4] rfl rfl (by decide) (by decide) (by decide) (va_recv (q := (RX0, TX0, 9)) hK hP (ci := 0) (q0 := 0) rfl rfl) rfl hl.1 rfl (Nat.le_of_ble_eq_true rfl) dX0_pullFreeInTruth_40 ⟨Nat.le_of_ble_eq_true rfl, Nat.le_of_ble_eq_true rfl⟩ (fun u_21 H locs hr_20 hP hD hS => ?_)
          obtain ⟨q_22, q_23, q_24, q_25⟩ := u_21
          try dsimp only at hr_20
          obtain ⟨hbq_22, hsr_20_0, hr_20⟩ := hr_20
          have h9R := zRe (ws' := [(jp, .inl (cP, 8, .inr (.inr (.inr (.inr fp))))), (w0, .inr (5, [.ref wk, .ref wl, .ref wc, .ref wp, .int wn, .int wh, .int wg])), (wk, .inl (cI, 125, .inl q_11)), (wp, .inl (cP, 8, .inr (.inr (.inr (.inr fq))))), (j0, .inr (0, [.ref z0, .ref jp, .ref jc, .int cn, .int q_22, .int q_23, .int q_24, .int hu, .int q_25]))]) hP hD rfl
          clear hP hD
          obtain ⟨hP, hD⟩ := h9R
          obtain ⟨x_26, ex_26⟩ : ∃ y : Int32, y = i_2 + 1 := ⟨_, rfl⟩
          have qx_26 : x_26.toInt = i_2.toInt + 1 := dw_incK ex_26 fc_7 (by decide)
          refine lv_iinc (v := x_26) (lv' := [(2, .int x_26), (3, .ref u_19), (0, .ref j0), (1, .ref w0)]) hx hb dX0_pullFreeInTruth_43 hl (k := 1) rfl ex_26.symm (by decide) rfl (fun ls hl => ?_)
          refine lv_goto (tgt := 2) hx hb dX0_pullFreeInTruth_46 (by decide) ?_
          exact ih x_26 (q_25) (q_24) (q_23) (q_22) (q_11) _ _ _ (hP.sub [1, 2, 3, 4, 0] rfl) (hD.sub [1, 2, 3, 4, 0] (by decide) rfl) hS (lv_sub hl [0, 2, 3] rfl) hbq_22 ⟨by omega, by omega⟩ (show zPf kf af tf cn.toInt.toNat hu.toInt 12 (de.toInt, se.toInt, tr, sd) = zPf kf af tf cn.toInt.toNat hu.toInt (12 - x_26.toInt).toNat ((q_22 : Int32).toInt, (q_24 : Int32).toInt, (q_23 : Int32), (q_25 : Int32)) from by (rw [hvi_2_0, show (12 - i_2.toInt).toNat = (12 - x_26.toInt).toNat + 1 from by omega, zPf_s, if_neg (by dsimp only; rw [← zxr_9]; omega)]; dsimp only; rw [← zxr_9, ← yau_19, ← ybu_19, ← ycu_19, hsr_20_0])) (show zKm kf af tf wn.toInt.toNat wh.toInt tw.toInt wg.toInt q_11 from by exact hsr_9_0) (show x_26.toInt ≤ 12 from by omega) (dw_lo hloi_2 qx_26) (dw_hn hni_2 qx_26)
