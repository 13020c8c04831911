set_option maxHeartbeats 4000000 in
set_option maxRecDepth 100000 in
theorem c_F_fillI (l : Launch) (D : va_G) (cI cJ cZ cP cS : ClassId) (po : zPool) (e0 : Nat) (f0 : Nat → Int32) (v : Int32)  (hpz : Nat) : Met l yJ7_fill_53178 wsJ7_fill_53178 ({ frames := 0, cells := 0, slots := 0, locals := 0 }) (va_Pc [.ref e0, .int v] (zW D (zKT cI cJ cZ cP cS) po [(e0, .inl (cI, 125, .inl f0))] hpz)) (va_Qv (fun (f1 : (Nat → Int32)) => ((∀ j : Nat, j < 125 → f1 j = v)) ∧ (True)) (zB D [(e0, .inl (cI, 125, .inl f0))] hpz (fun (f1 : Nat → Int32) => [(e0, .inl (cI, 125, .inl f1))])) (va_A [(e0, .inl (cI, 125, .inl f0))] hpz)) 0 0 (va_A [(e0, .inl (cI, 125, .inl f0))] hpz) := by
  refine Met.ofW (cc := cJ7_fill_53178) (maxL := 4) (ret := none) (by decide) rfl ?_
  intro p e s m args below meth c s₁ B hml hv
  obtain ⟨rfl, hsz, hP, hK, hD0, hN, hZ⟩ := hv
  have hx := B.exec
  have hb := B.bytes
  have hr := B.returns
  have hts := atoms_spec (ws := wsJ7_fill_53178) B.pre
  have hown : s.vm.findClass RJ7 = some m.cls := findClass_of_methodNamed B.named
  have hlocks := B.notSynchronized
  subst hsz
  have hD := hD0.self (sz := s.heap.size)
  have hA := zA_of hD
  have hl := lv_entry ([.ref e0, .int v]) (n := 4) (Nat.le_of_ble_eq_true rfl)
  rw [lg_entry_eq]
  generalize (lg_sl ([.ref e0, .int v]) ++ List.replicate (4 - (lg_sl ([.ref e0, .int v])).length) Slot.unset).toArray = ls at hl ⊢
  replace hl : lv_has ls 4 [(0, .ref e0), (1, .int v)] := hl
  refine zw_begin hP hD (fun H locs hP1 hS => ?_)
  clear hP
  have hP := hP1
  clear hP1
  refine lv_iconst (v := 0) hx hb dJ7_fill_53178_0 (by decide) ?_
  refine lv_istore_n (lv' := [(2, .int 0), (0, .ref e0), (1, .int v)]) hx hb dJ7_fill_53178_1 rfl hl (by decide) rfl (fun ls hl => ?_)
  refine lv_aload_n hx hb dJ7_fill_53178_2 rfl (lv_at hl 1 rfl) ?_
  refine va_alen (v := 125) hx hb hK hP 0 0 rfl rfl rfl dJ7_fill_53178_3 ?_
  refine lv_istore_n (lv' := [(3, .int 125), (2, .int 0), (0, .ref e0), (1, .int v)]) hx hb dJ7_fill_53178_4 rfl hl (by decide) rfl (fun ls hl => ?_)
  obtain ⟨i_5, hi_5⟩ : ∃ i : Int32, i = 0 := ⟨_, rfl⟩
  replace hl : lv_has ls 4 [(3, .int 125), (2, .int i_5), (0, .ref e0), (1, .int v)] := by rw [hi_5]; exact lv_sub hl [0, 1, 2, 3] rfl
  have h1i_5 : i_5.toInt = 0 := by rw [hi_5]; decide
  obtain ⟨nfu, hni_5⟩ : ∃ nq9 : Nat, 125 ≤ i_5.toInt + (nq9 : Int) := ⟨((125 : Int) - 0).toNat, by omega⟩
  have hloi_5 : 0 ≤ i_5.toInt := by omega
  obtain ⟨g_1, hg_1⟩ : ∃ g : Nat → Int32, g = f0 := ⟨_, rfl⟩
  replace hP : va_P D vwCl [(e0, .inl (cI, 125, .inl g_1))] H := by rw [hg_1]; exact hP
  replace hD : va_D (va_A [(e0, .inl (cI, 125, .inl f0))] s.heap.size) [(e0, .inl (cI, 125, .inl g_1))] := by rw [hg_1]; exact hD
  have hvi_5_0 : (∀ j : Nat, (j : Int) < i_5.toInt → g_1 j = v) := by
    (try rw [hi_5]); (try rw [hg_1]); (intro j hj; exfalso; have k0 : (0 : Int32).toInt = 0 := (by decide); omega)
  clear h1i_5 hi_5 hg_1
  skip
  revert hni_5
  revert hloi_5
  revert hvi_5_0
  revert hl
  revert hS
  revert hD
  revert hP
  revert ls
  revert locs
  revert H
  revert g_1
  revert i_5
  induction nfu with
  | zero =>
    intro i_5 g_1 H locs ls hP hD hS hl hvi_5_0 hloi_5 hni_5
    have hzi_5 : 125 ≤ i_5.toInt := by omega
    refine lv_iload_n hx hb dJ7_fill_53178_5 rfl (lv_at hl 1 rfl) ?_
    refine lv_iload_n hx hb dJ7_fill_53178_6 rfl (lv_at hl 0 rfl) ?_
    refine lv_icmp_ge (tgt := 20) hx hb dJ7_fill_53178_7 (by decide) (fun c_2 => ?_) (fun c_2 => ?_)
    · have fc_2 : 125 ≤ i_5.toInt := zf_le c_2 (by decide) rfl
      exact W.vret hx hb hr (fun t ht hW => ⟨⟨g_1, rfl, ⟨(show (∀ j : Nat, j < 125 → g_1 j = v) from by (intro j hj; exact hvi_5_0 j (by omega))), trivial⟩, zRet ht hP hD [0] (by decide) rfl⟩, hS.F ht⟩) hS.2.2 dJ7_fill_53178_20
    · exfalso; have fc_2 : i_5.toInt < 125 := zf_nle c_2 (by decide) rfl; omega
  | succ nfu ih =>
    intro i_5 g_1 H locs ls hP hD hS hl hvi_5_0 hloi_5 hni_5
    refine lv_iload_n hx hb dJ7_fill_53178_5 rfl (lv_at hl 1 rfl) ?_
    refine lv_iload_n hx hb dJ7_fill_53178_6 rfl (lv_at hl 0 rfl) ?_
    refine lv_icmp_ge (tgt := 20) hx hb dJ7_fill_53178_7 (by decide) (fun c_3 => ?_) (fun c_3 => ?_)
    · have fc_3 : 125 ≤ i_5.toInt := zf_le c_3 (by decide) rfl
      exact W.vret hx hb hr (fun t ht hW => ⟨⟨g_1, rfl, ⟨(show (∀ j : Nat, j < 125 → g_1 j = v) from by (intro j hj; exact hvi_5_0 j (by omega))), trivial⟩, zRet ht hP hD [0] (by decide) rfl⟩, hS.F ht⟩) hS.2.2 dJ7_fill_53178_20
    · have fc_3 : i_5.toInt < 125 := zf_nle c_3 (by decide) rfl
      refine lv_aload_n hx hb dJ7_fill_53178_10 rfl (lv_at hl 2 rfl) ?_
      refine lv_iload_n hx hb dJ7_fill_53178_11 rfl (lv_at hl 1 rfl) ?_
      refine lv_iload_n hx hb dJ7_fill_53178_12 rfl (lv_at hl 3 rfl) ?_
      refine va_iast hx hb hK hP hD hS 0 0 rfl rfl (zf_in (by omega) (by omega)) dJ7_fill_53178_13 (fun H locs hP hD hS => ?_)
      obtain ⟨g_4, hg_4⟩ : ∃ g : Nat → Int32, g = upd g_1 i_5.toNatClampNeg v := ⟨_, rfl⟩
      rw [← hg_4] at hP hD
      have h9R := zRe (ws' := [(e0, .inl (cI, 125, .inl g_4))]) hP hD rfl
      clear hP hD
      obtain ⟨hP, hD⟩ := h9R
      obtain ⟨x_5, ex_5⟩ : ∃ y : Int32, y = i_5 + 1 := ⟨_, rfl⟩
      have qx_5 : x_5.toInt = i_5.toInt + 1 := dw_incK ex_5 fc_3 (by decide)
      refine lv_iinc (v := x_5) (lv' := [(2, .int x_5), (3, .int 125), (0, .ref e0), (1, .int v)]) hx hb dJ7_fill_53178_14 hl (k := 1) rfl ex_5.symm (by decide) rfl (fun ls hl => ?_)
      refine lv_goto (tgt := 5) hx hb dJ7_fill_53178_17 (by decide) ?_
      exact ih x_5 (g_4) _ _ _ (hP.sub [0] rfl) (hD.sub [0] (by decide) rfl) hS (lv_sub hl [1, 0, 2, 3] rfl) (show (∀ j : Nat, (j : Int) < x_5.toInt → g_4 j = v) from by (intro j hj; rw [hg_4]; simp only [upd]; have h7 : i_5.toNatClampNeg = i_5.toInt.toNat := rfl; by_cases e9 : j = i_5.toNatClampNeg; (rw [if_pos e9]); (rw [if_neg e9]; exact hvi_5_0 j (by omega)))) (dw_lo hloi_5 qx_5) (dw_hn hni_5 qx_5)
set_option maxHeartbeats 4000000 in
set_option maxRecDepth 100000 in
theorem c_F_W_look (l : Launch) (D : va_G) (cI cJ cZ cP cS : ClassId) (po : zPool) (w0 wk wl wc wp : Nat) (wn wh wg : Int32) (j0 jp jc z0 zl zs : Nat) (cn de tr se hu sd : Int32) (fp fq : Nat → Option Nat) (kf af tf : Nat → Int32) (fk fl fc fjc : Nat → Int32) (h te : Int32) (hy0 : 0 ≤ wn.toInt) (hy1 : wn.toInt ≤ 8) (hy2 : 0 ≤ wh.toInt) (hy3 : wh.toInt ≤ 9) (hy4 : 0 ≤ wg.toInt) (hy5 : wg.toInt ≤ 60) (hy6 : 0 ≤ cn.toInt) (hy7 : cn.toInt ≤ 8) (hy8 : 0 ≤ de.toInt) (hy9 : de.toInt ≤ 24) (hy10 : 0 ≤ hu.toInt) (hy11 : hu.toInt ≤ 9) (hy12 : 0 ≤ h.toInt) (hy13 : h.toInt ≤ 9) (hwq : zWP po fq) (hjp : zJP po fp cn kf af tf) (hp_fc : zRg fc (0) 99) (hp_fjc : zRg fjc (0) 99) (hpz : Nat) : Met l yX5_look wsX5_look ({ frames := 2, cells := 0, slots := 0, locals := 100 }) (va_Pc [.ref w0, .ref j0, .int h, .int te] (zW D (zKT cI cJ cZ cP cS) po [(w0, .inr (5, [.ref wk, .ref wl, .ref wc, .ref wp, .int wn, .int wh, .int wg])), (wk, .inl (cI, 125, .inl fk)), (wl, .inl (cI, 125, .inl fl)), (wc, .inl (cI, 3, .inl fc)), (wp, .inl (cP, 8, .inr (.inr (.inr (.inr fq))))), (j0, .inr (0, [.ref z0, .ref jp, .ref jc, .int cn, .int de, .int tr, .int se, .int hu, .int sd])), (jp, .inl (cP, 8, .inr (.inr (.inr (.inr fp))))), (jc, .inl (cI, 3, .inl fjc))] hpz)) (va_Qv (fun (u : (Int32) × (Int32) × (Int32) × (Nat → Int32) × (Nat → Int32) × (Nat → Int32) × (Nat → Option Nat)) => (0 ≤ u.1.toInt ∧ u.1.toInt ≤ 8) ∧ (0 ≤ u.2.1.toInt ∧ u.2.1.toInt ≤ 9) ∧ (0 ≤ u.2.2.1.toInt ∧ u.2.2.1.toInt ≤ 60) ∧ zRg u.2.2.2.2.2.1 (0) 99 ∧ zWP po u.2.2.2.2.2.2 ∧ (zJW po u.2.2.2.2.2.2 cn kf af tf te) ∧ ((∀ p : Nat, (p : Int) < cn.toInt → (te.toInt ≠ 0 ∨ (kf p).toInt ≠ 5) → (tf p).toInt ≤ u.2.2.1.toInt)) ∧ (u.1 = cn ∧ u.2.1 = h) ∧ ((∀ j : Nat, j < 3 → u.2.2.2.2.2.1 j = fjc j)) ∧ ((∀ j : Nat, j < 125 → (u.2.2.2.1 j).toInt = -1)) ∧ ((∀ j : Nat, j < 125 → (u.2.2.2.2.1 j).toInt = -1)) ∧ (True)) (zB D [(w0, .inr (5, [.ref wk, .ref wl, .ref wc, .ref wp, .int wn, .int wh, .int wg])), (wk, .inl (cI, 125, .inl fk)), (wl, .inl (cI, 125, .inl fl)), (wc, .inl (cI, 3, .inl fc)), (wp, .inl (cP, 8, .inr (.inr (.inr (.inr fq))))), (j0, .inr (0, [.ref z0, .ref jp, .ref jc, .int cn, .int de, .int tr, .int se, .int hu, .int sd])), (jp, .inl (cP, 8, .inr (.inr (.inr (.inr fp))))), (jc, .inl (cI, 3, .inl fjc))] hpz (fun (u : (Int32) × (Int32) × (Int32) × (Nat → Int32) × (Nat → Int32) × (Nat → Int32) × (Nat → Option Nat)) => [(w0, .inr (5, [.ref wk, .ref wl, .ref wc, .ref wp, .int u.1, .int u.2.1, .int u.2.2.1])), (wk, .inl (cI, 125, .inl u.2.2.2.1)), (wl, .inl (cI, 125, .inl u.2.2.2.2.1)), (wc, .inl (cI, 3, .inl u.2.2.2.2.2.1)), (wp, .inl (cP, 8, .inr (.inr (.inr (.inr u.2.2.2.2.2.2))))), (j0, .inr (0, [.ref z0, .ref jp, .ref jc, .int cn, .int de, .int tr, .int se, .int hu, .int sd])), (jp, .inl (cP, 8, .inr (.inr (.inr (.inr fp))))), (jc, .inl (cI, 3, .inl fjc))])) (va_A [(w0, .inr (5, [.ref wk, .ref wl, .ref wc, .ref wp, .int wn, .int wh, .int wg])), (wk, .inl (cI, 125, .inl fk)), (wl, .inl (cI, 125, .inl fl)), (wc, .inl (cI, 3, .inl fc)), (wp, .inl (cP, 8, .inr (.inr (.inr (.inr fq))))), (j0, .inr (0, [.ref z0, .ref jp, .ref jc, .int cn, .int de, .int tr, .int se, .int hu, .int sd])), (jp, .inl (cP, 8, .inr (.inr (.inr (.inr fp))))), (jc, .inl (cI, 3, .inl fjc))] hpz)) 0 0 (va_A [(w0, .inr (5, [.ref wk, .ref wl, .ref wc, .ref wp, .int wn, .int wh, .int wg])), (wk, .inl (cI, 125, .inl fk)), (wl, .inl (cI, 125, .inl fl)), (wc, .inl (cI, 3, .inl fc)), (wp, .inl (cP, 8, .inr (.inr (.inr (.inr fq))))), (j0, .inr (0, [.ref z0, .ref jp, .ref jc, .int cn, .int de, .int tr, .int se, .int hu, .int sd])), (jp, .inl (cP, 8, .inr (.inr (.inr (.inr fp))))), (jc, .inl (cI, 3, .inl fjc))] hpz) := by
  refine Met.ofW (cc := cX5_look) (maxL := 7) (ret := none) (by decide) rfl ?_
  intro p e s m args below meth c s₁ B hml hv
  obtain ⟨rfl, hsz, hP, hK, hD0, hN, hZ⟩ := hv
  have hx := B.exec
  have hb := B.bytes
  have hr := B.returns
  have hts := atoms_spec (ws := wsX5_look) B.pre
  have hown : s.vm.findClass RX5 = some m.cls := findClass_of_methodNamed B.named
  have hlocks := B.notSynchronized
  subst hsz
  have hD := hD0.self (sz := s.heap.size)
  have hA := zA_of hD
  have hl := lv_entry ([.ref w0, .ref j0, .int h, .int te]) (n := 7) (Nat.le_of_ble_eq_true rfl)
  rw [lg_entry_eq]
  generalize (lg_sl ([.ref w0, .ref j0, .int h, .int te]) ++ List.replicate (7 - (lg_sl ([.ref w0, .ref j0, .int h, .int te])).length) Slot.unset).toArray = ls at hl ⊢
  replace hl : lv_has ls 7 [(0, .ref w0), (1, .ref j0), (2, .int h), (3, .int te)] := hl
  refine zw_begin hP hD (fun H locs hP1 hS => ?_)
  clear hP
  have hP := hP1
  clear hP1
  refine lv_aload_n hx hb dX5_look_0 rfl (lv_at hl 0 rfl) ?_
  refine lv_aload_n hx hb dX5_look_1 rfl (lv_at hl 1 rfl) ?_
  refine va_get (D := D) (ci := 0) (v := .int cn) (C := RX0) (T := TX0) (N := 9) hx hb hts hi_X5_look_0 hown hK hP 5 rfl rfl 3 (by decide) (hts (.fieldLink RX5 37 "TheLiningsInIt$Jacket" "pullCount" "I") (List.mem_of_getElem? (i := 1) rfl)) (fun _ h9 => h9) rfl dX5_look_2 ?_
  refine va_put (D := D) (ci := 5) (v := .int cn) (ty := .int) (C := RX5) (T := TX5) (N := 7) hx hb hts hi_X5_look_5 tyX5 tyX5_ok nmX5 hown hK hP hD hS 0 rfl rfl 4 (by decide) (hts (.fieldLink RX5 27 "TheLiningsInIt$Ways" "count" "I") (List.mem_of_getElem? (i := 2) rfl)) (fun _ h9 => h9) rfl (tyX5_ok 4 (Nat.le_of_ble_eq_true rfl)) rfl rfl (Nat.le_of_ble_eq_true rfl) dX5_look_5 (fun H locs hP hD hS => ?_)
  have h9R := zRe (ws' := [(w0, .inr (5, [.ref wk, .ref wl, .ref wc, .ref wp, .int cn, .int wh, .int wg])), (wk, .inl (cI, 125, .inl fk)), (wl, .inl (cI, 125, .inl fl)), (wc, .inl (cI, 3, .inl fc)), (wp, .inl (cP, 8, .inr (.inr (.inr (.inr fq))))), (j0, .inr (0, [.ref z0, .ref jp, .ref jc, .int cn, .int de, .int tr, .int se, .int hu, .int sd])), (jp, .inl (cP, 8, .inr (.inr (.inr (.inr fp))))), (jc, .inl (cI, 3, .inl fjc))]) hP hD rfl
  clear hP hD
  obtain ⟨hP, hD⟩ := h9R
  refine lv_aload_n hx hb dX5_look_8 rfl (lv_at hl 0 rfl) ?_
  refine lv_iload_n hx hb dX5_look_9 rfl (lv_at hl 2 rfl) ?_
  refine va_put (D := D) (ci := 5) (v := .int h) (ty := .int) (C := RX5) (T := TX5) (N := 7) hx hb hts hi_X5_look_5 tyX5 tyX5_ok nmX5 hown hK hP hD hS 0 rfl rfl 5 (by decide) (hts (.fieldLink RX5 31 "TheLiningsInIt$Ways" "hurry" "I") (List.mem_of_getElem? (i := 3) rfl)) (fun _ h9 => h9) rfl (tyX5_ok 5 (Nat.le_of_ble_eq_true rfl)) rfl rfl (Nat.le_of_ble_eq_true rfl) dX5_look_10 (fun H locs hP hD hS => ?_)
  have h9R := zRe (ws' := [(w0, .inr (5, [.ref wk, .ref wl, .ref wc, .ref wp, .int cn, .int h, .int wg])), (wk, .inl (cI, 125, .inl fk)), (wl, .inl (cI, 125, .inl fl)), (wc, .inl (cI, 3, .inl fc)), (wp, .inl (cP, 8, .inr (.inr (.inr (.inr fq))))), (j0, .inr (0, [.ref z0, .ref jp, .ref jc, .int cn, .int de, .int tr, .int se, .int hu, .int sd])), (jp, .inl (cP, 8, .inr (.inr (.inr (.inr fp))))), (jc, .inl (cI, 3, .inl fjc))]) hP hD rfl
  clear hP hD
  obtain ⟨hP, hD⟩ := h9R
  refine lv_aload_n hx hb dX5_look_13 rfl (lv_at hl 0 rfl) ?_
  refine lv_iconst (v := 0) hx hb dX5_look_14 (by decide) ?_
  refine va_put (D := D) (ci := 5) (v := .int 0) (ty := .int) (C := RX5) (T := TX5) (N := 7) hx hb hts hi_X5_look_5 tyX5 tyX5_ok nmX5 hown hK hP hD hS 0 rfl rfl 6 (by decide) (hts (.fieldLink RX5 34 "TheLiningsInIt$Ways" "longest" "I") (List.mem_of_getElem? (i := 4) rfl)) (fun _ h9 => h9) rfl (tyX5_ok 6 (Nat.le_of_ble_eq_true rfl)) rfl rfl (Nat.le_of_ble_eq_true rfl) dX5_look_15 (fun H locs hP hD hS => ?_)
  have h9R := zRe (ws' := [(w0, .inr (5, [.ref wk, .ref wl, .ref wc, .ref wp, .int cn, .int h, .int 0])), (wk, .inl (cI, 125, .inl fk)), (wl, .inl (cI, 125, .inl fl)), (wc, .inl (cI, 3, .inl fc)), (wp, .inl (cP, 8, .inr (.inr (.inr (.inr fq))))), (j0, .inr (0, [.ref z0, .ref jp, .ref jc, .int cn, .int de, .int tr, .int se, .int hu, .int sd])), (jp, .inl (cP, 8, .inr (.inr (.inr (.inr fp))))), (jc, .inl (cI, 3, .inl fjc))]) hP hD rfl
  clear hP hD
  obtain ⟨hP, hD⟩ := h9R
  refine lv_iconst (v := 0) hx hb dX5_look_18 (by decide) ?_
  refine lv_istore (lv' := [(4, .int 0), (0, .ref w0), (1, .ref j0), (2, .int h), (3, .int te)]) hx hb dX5_look_19 hl (by decide) rfl (fun ls hl => ?_)
  obtain ⟨i_21, hi_21⟩ : ∃ i : Int32, i = 0 := ⟨_, rfl⟩
  replace hl : lv_has ls 7 [(4, .int i_21), (0, .ref w0), (1, .ref j0), (2, .int h), (3, .int te)] := by rw [hi_21]; exact lv_sub hl [0, 1, 2, 3, 4] rfl
  have h1i_21 : i_21.toInt = 0 := by rw [hi_21]; decide
  obtain ⟨nfu, hni_21⟩ : ∃ nq9 : Nat, cn.toInt ≤ i_21.toInt + (nq9 : Int) := ⟨((cn.toInt : Int) - 0).toNat, by omega⟩
  have hloi_21 : 0 ≤ i_21.toInt := by omega
  obtain ⟨g_1, hg_1⟩ : ∃ g : Nat → Option Nat, g = fq := ⟨_, rfl⟩
  have hwg_1 : zWP po g_1 := by rw [hg_1]; exact hwq
  obtain ⟨v_2, hv_2⟩ : ∃ g : Int32, g = 0 := ⟨_, rfl⟩
  have hbv_2 : 0 ≤ v_2.toInt ∧ v_2.toInt ≤ 60 := by rw [hv_2]; exact ⟨by decide, by decide⟩
  replace hP : va_P D vwCl [(w0, .inr (5, [.ref wk, .ref wl, .ref wc, .ref wp, .int cn, .int h, .int v_2])), (wk, .inl (cI, 125, .inl fk)), (wl, .inl (cI, 125, .inl fl)), (wc, .inl (cI, 3, .inl fc)), (wp, .inl (cP, 8, .inr (.inr (.inr (.inr g_1))))), (j0, .inr (0, [.ref z0, .ref jp, .ref jc, .int cn, .int de, .int tr, .int se, .int hu, .int sd])), (jp, .inl (cP, 8, .inr (.inr (.inr (.inr fp))))), (jc, .inl (cI, 3, .inl fjc))] H := by rw [hg_1, hv_2]; exact hP
  replace hD : va_D (va_A [(w0, .inr (5, [.ref wk, .ref wl, .ref wc, .ref wp, .int wn, .int wh, .int wg])), (wk, .inl (cI, 125, .inl fk)), (wl, .inl (cI, 125, .inl fl)), (wc, .inl (cI, 3, .inl fc)), (wp, .inl (cP, 8, .inr (.inr (.inr (.inr fq))))), (j0, .inr (0, [.ref z0, .ref jp, .ref jc, .int cn, .int de, .int tr, .int se, .int hu, .int sd])), (jp, .inl (cP, 8, .inr (.inr (.inr (.inr fp))))), (jc, .inl (cI, 3, .inl fjc))] s.heap.size) [(w0, .inr (5, [.ref wk, .ref wl, .ref wc, .ref wp, .int cn, .int h, .int v_2])), (wk, .inl (cI, 125, .inl fk)), (wl, .inl (cI, 125, .inl fl)), (wc, .inl (cI, 3, .inl fc)), (wp, .inl (cP, 8, .inr (.inr (.inr (.inr g_1))))), (j0, .inr (0, [.ref z0, .ref jp, .ref jc, .int cn, .int de, .int tr, .int se, .int hu, .int sd])), (jp, .inl (cP, 8, .inr (.inr (.inr (.inr fp))))), (jc, .inl (cI, 3, .inl fjc))] := by rw [hg_1, hv_2]; exact hD
  have hvi_21_0 : zJW po g_1 i_21 kf af tf te := by
    (try rw [hi_21]); (try rw [hg_1]); (try rw [hv_2]); (intro j hj; exfalso; have k0 : (0 : Int32).toInt = 0 := (by decide); omega)
  have hvi_21_1 : (∀ p : Nat, (p : Int) < i_21.toInt → (te.toInt ≠ 0 ∨ (kf p).toInt ≠ 5) → (tf p).toInt ≤ (v_2 : Int32).toInt) := by
    (try rw [hi_21]); (try rw [hg_1]); (try rw [hv_2]); (intro p hp; exfalso; have k0 : (0 : Int32).toInt = 0 := (by decide); omega)
  have hvi_21_2 : i_21.toInt ≤ cn.toInt := by
    (try rw [hi_21]); (try rw [hg_1]); (try rw [hv_2]); (have k0 : (0 : Int32).toInt = 0 := (by decide); omega)
  clear h1i_21 hi_21 hg_1 hv_2
  skip
  revert hni_21
  revert hloi_21
  revert hvi_21_2
  revert hvi_21_1
  revert hvi_21_0
  revert hbv_2
  revert hwg_1
  revert hl
  revert hS
  revert hD
  revert hP
  revert ls
  revert locs
  revert H
  revert g_1
  revert v_2
  revert i_21
  induction nfu with
  | zero =>
    intro i_21 v_2 g_1 H locs ls hP hD hS hl hwg_1 hbv_2 hvi_21_0 hvi_21_1 hvi_21_2 hloi_21 hni_21
    have hzi_21 : cn.toInt ≤ i_21.toInt := by omega
    refine lv_iload hx hb dX5_look_21 (lv_at hl 0 rfl) ?_
    refine lv_aload_n hx hb dX5_look_23 rfl (lv_at hl 1 rfl) ?_
    refine va_get (D := D) (ci := 5) (v := .int cn) (C := RX5) (T := TX5) (N := 7) hx hb hts hi_X5_look_5 hown hK hP 0 rfl rfl 4 (by decide) (hts (.fieldLink RX5 27 "TheLiningsInIt$Ways" "count" "I") (List.mem_of_getElem? (i := 2) rfl)) (fun _ h9 => h9) rfl dX5_look_24 ?_
    refine lv_icmp_ge (tgt := 122) hx hb dX5_look_27 (by decide) (fun c_3 => ?_) (fun c_3 => ?_)
    · have fc_3 : cn.toInt ≤ i_21.toInt := zf_le c_3 rfl rfl
      refine lv_aload_n hx hb dX5_look_122 rfl (lv_at hl 2 rfl) ?_
      refine va_get (D := D) (ci := 0) (v := .ref jc) (C := RX0) (T := TX0) (N := 9) hx hb hts hi_X5_look_0 hown hK hP 5 rfl rfl 2 (by decide) (hts (.fieldLink RX5 58 "TheLiningsInIt$Jacket" "costs" "[I") (List.mem_of_getElem? (i := 12) rfl)) (fun _ h9 => h9) rfl dX5_look_123 ?_
      refine lv_iconst (v := 0) hx hb dX5_look_126 (by decide) ?_
      refine lv_aload_n hx hb dX5_look_127 rfl (lv_at hl 1 rfl) ?_
      refine va_get (D := D) (ci := 5) (v := .ref wc) (C := RX5) (T := TX5) (N := 7) hx hb hts hi_X5_look_5 hown hK hP 0 rfl rfl 2 (by decide) (hts (.fieldLink RX5 18 "TheLiningsInIt$Ways" "costs" "[I") (List.mem_of_getElem? (i := 13) rfl)) (fun _ h9 => h9) rfl dX5_look_128 ?_
      refine lv_iconst (v := 0) hx hb dX5_look_131 (by decide) ?_
      refine lv_iconst (v := 3) hx hb dX5_look_132 (by decide) ?_
      refine va_copyi hx hb (hml.trans hl.1.symm) hown (hts (.methodLink RX5 59 arraycopyName) (List.mem_of_getElem? (i := 14) rfl)) (hts _ (List.mem_of_getElem? (i := 15) rfl)) (hts _ (List.mem_of_getElem? (i := 16) rfl)) (hts _ (List.mem_of_getElem? (i := 17) rfl)) hK hP hD hS 7 3 0 0 rfl rfl rfl rfl rfl (by decide) (by decide) (by decide) (by decide) (by decide) (fun _ _ => rfl) (Nat.le_of_ble_eq_true rfl) (by decide) dX5_look_133 (fun H locs hP hD hS => ?_)
      have hpg_4 : zRg (va_cpy fjc fc (0 : Int32).toNatClampNeg (0 : Int32).toNatClampNeg (3 : Int32).toNatClampNeg) (0) 99 := zRg_cpy hp_fjc hp_fc
      obtain ⟨g_4, hg_4⟩ : ∃ g : Nat → Int32, g = va_cpy fjc fc (0 : Int32).toNatClampNeg (0 : Int32).toNatClampNeg (3 : Int32).toNatClampNeg := ⟨_, rfl⟩
      rw [← hg_4] at hP hD hpg_4
      have h9R := zRe (ws' := [(w0, .inr (5, [.ref wk, .ref wl, .ref wc, .ref wp, .int cn, .int h, .int v_2])), (wk, .inl (cI, 125, .inl fk)), (wl, .inl (cI, 125, .inl fl)), (wc, .inl (cI, 3, .inl g_4)), (wp, .inl (cP, 8, .inr (.inr (.inr (.inr g_1))))), (j0, .inr (0, [.ref z0, .ref jp, .ref jc, .int cn, .int de, .int tr, .int se, .int hu, .int sd])), (jp, .inl (cP, 8, .inr (.inr (.inr (.inr fp))))), (jc, .inl (cI, 3, .inl fjc))]) hP hD rfl
      clear hP hD
      obtain ⟨hP, hD⟩ := h9R
      refine lv_aload_n hx hb dX5_look_136 rfl (lv_at hl 1 rfl) ?_
      refine va_get (D := D) (ci := 5) (v := .ref wk) (C := RX5) (T := TX5) (N := 7) hx hb hts hi_X5_look_5 hown hK hP 0 rfl rfl 0 (by decide) (hts (.fieldLink RX5 9 "TheLiningsInIt$Ways" "knownMost" "[I") (List.mem_of_getElem? (i := 18) rfl)) (fun _ h9 => h9) rfl dX5_look_137 ?_
      refine lv_iconst (v := (-1)) hx hb dX5_look_140 (by decide) ?_
      skip
      refine zw_Sv (As := [.ref wk, .int (-1)]) (rest := []) (wr := [(w0, .inr (5, [.ref wk, .ref wl, .ref wc, .ref wp, .int cn, .int h, .int v_2])), (wl, .inl (cI, 125, .inl fl)), (wc, .inl (cI, 3, .inl g_4)), (wp, .inl (cP, 8, .inr (.inr (.inr (.inr g_1))))), (j0, .inr (0, [.ref z0, .ref jp, .ref jc, .int cn, .int de, .int tr, .int se, .int hu, .int sd])), (jp, .inl (cP, 8, .inr (.inr (.inr (.inr fp))))), (jc, .inl (cI, 3, .inl fjc))]) ⟨hx, hb, hml, hown, hts⟩ (c_F_fillI l D cI cJ cZ cP cS po wk fk ((-1))  H.size) (va_cwS 2 hts gX5_look_J7_fill_53178 rfl rfl rfl dh_J7_fill_53178 ⟨Nat.le_of_ble_eq_true rfl, Nat.le_of_ble_eq_true rfl⟩) hK hN (hZ.kept hS) hP hD hS hA [1] [0, 2, 3, 4, 5, 6, 7] rfl rfl (by decide) (by decide) (by decide) rfl hl.1 rfl (Nat.le_of_ble_eq_true rfl) dX5_look_141 ⟨Nat.le_of_ble_eq_true rfl, Nat.le_of_ble_eq_true rfl⟩ (fun u_6 H locs hr_5 hP hD hS => ?_)
      obtain ⟨q_7, rfl⟩ : ∃ z, z = u_6 := ⟨_, rfl⟩
      obtain ⟨hsr_5_0, hr_5⟩ := hr_5
      have h9R := zRe (ws' := [(w0, .inr (5, [.ref wk, .ref wl, .ref wc, .ref wp, .int cn, .int h, .int v_2])), (wl, .inl (cI, 125, .inl fl)), (wc, .inl (cI, 3, .inl g_4)), (wp, .inl (cP, 8, .inr (.inr (.inr (.inr g_1))))), (j0, .inr (0, [.ref z0, .ref jp, .ref jc, .int cn, .int de, .int tr, .int se, .int hu, .int sd])), (jp, .inl (cP, 8, .inr (.inr (.inr (.inr fp))))), (jc, .inl (cI, 3, .inl fjc)), (wk, .inl (cI, 125, .inl q_7))]) hP hD rfl
      clear hP hD
      obtain ⟨hP, hD⟩ := h9R
      refine lv_aload_n hx hb dX5_look_144 rfl (lv_at hl 1 rfl) ?_
      refine va_get (D := D) (ci := 5) (v := .ref wl) (C := RX5) (T := TX5) (N := 7) hx hb hts hi_X5_look_5 hown hK hP 0 rfl rfl 1 (by decide) (hts (.fieldLink RX5 15 "TheLiningsInIt$Ways" "knownLeast" "[I") (List.mem_of_getElem? (i := 19) rfl)) (fun _ h9 => h9) rfl dX5_look_145 ?_
      refine lv_iconst (v := (-1)) hx hb dX5_look_148 (by decide) ?_
      skip
      refine zw_Sv (As := [.ref wl, .int (-1)]) (rest := []) (wr := [(w0, .inr (5, [.ref wk, .ref wl, .ref wc, .ref wp, .int cn, .int h, .int v_2])), (wc, .inl (cI, 3, .inl g_4)), (wp, .inl (cP, 8, .inr (.inr (.inr (.inr g_1))))), (j0, .inr (0, [.ref z0, .ref jp, .ref jc, .int cn, .int de, .int tr, .int se, .int hu, .int sd])), (jp, .inl (cP, 8, .inr (.inr (.inr (.inr fp))))), (jc, .inl (cI, 3, .inl fjc)), (wk, .inl (cI, 125, .inl q_7))]) ⟨hx, hb, hml, hown, hts⟩ (c_F_fillI l D cI cJ cZ cP cS po wl fl ((-1))  H.size) (va_cwS 2 hts gX5_look_J7_fill_53178 rfl rfl rfl dh_J7_fill_53178 ⟨Nat.le_of_ble_eq_true rfl, Nat.le_of_ble_eq_true rfl⟩) hK hN (hZ.kept hS) hP hD hS hA [1] [0, 2, 3, 4, 5, 6, 7] rfl rfl (by decide) (by decide) (by decide) rfl hl.1 rfl (Nat.le_of_ble_eq_true rfl) dX5_look_149 ⟨Nat.le_of_ble_eq_true rfl, Nat.le_of_ble_eq_true rfl⟩ (fun u_9 H locs hr_8 hP hD hS => ?_)
      obtain ⟨q_10, rfl⟩ : ∃ z, z = u_9 := ⟨_, rfl⟩
      obtain ⟨hsr_8_0, hr_8⟩ := hr_8
      have h9R := zRe (ws' := [(w0, .inr (5, [.ref wk, .ref wl, .ref wc, .ref wp, .int cn, .int h, .int v_2])), (wc, .inl (cI, 3, .inl g_4)), (wp, .inl (cP, 8, .inr (.inr (.inr (.inr g_1))))), (j0, .inr (0, [.ref z0, .ref jp, .ref jc, .int cn, .int de, .int tr, .int se, .int hu, .int sd])), (jp, .inl (cP, 8, .inr (.inr (.inr (.inr fp))))), (jc, .inl (cI, 3, .inl fjc)), (wk, .inl (cI, 125, .inl q_7)), (wl, .inl (cI, 125, .inl q_10))]) hP hD rfl
      clear hP hD
      obtain ⟨hP, hD⟩ := h9R
      exact W.vret hx hb hr (fun t ht hW => ⟨⟨(cn, h, v_2, q_7, q_10, g_4, g_1), rfl, ⟨(show 0 ≤ cn.toInt ∧ cn.toInt ≤ 8 from ⟨hy6, hy7⟩), (show 0 ≤ h.toInt ∧ h.toInt ≤ 9 from ⟨hy12, hy13⟩), (show 0 ≤ v_2.toInt ∧ v_2.toInt ≤ 60 from hbv_2), hpg_4, hwg_1, (show zJW po g_1 cn kf af tf te from by (intro j hj; exact hvi_21_0 j (by omega))), (show (∀ p : Nat, (p : Int) < cn.toInt → (te.toInt ≠ 0 ∨ (kf p).toInt ≠ 5) → (tf p).toInt ≤ v_2.toInt) from by (intro p hp hl; exact hvi_21_1 p (by omega) hl)), (show cn = cn ∧ h = h from by exact ⟨rfl, rfl⟩), (show (∀ j : Nat, j < 3 → g_4 j = fjc j) from by (intro j hj; rw [hg_4]; unfold va_cpy; have k0 : (0 : Int32).toNatClampNeg = 0 := (by decide); have k3 : (3 : Int32).toNatClampNeg = 3 := (by decide); rw [k0, k3, if_pos (by omega)]; congr 1; omega)), (show (∀ j : Nat, j < 125 → (q_7 j).toInt = -1) from by (intro j hj; rw [hsr_5_0 j hj]; decide)), (show (∀ j : Nat, j < 125 → (q_10 j).toInt = -1) from by (intro j hj; rw [hsr_8_0 j hj]; decide)), trivial⟩, zRet ht hP hD [0, 6, 7, 1, 2, 3, 4, 5] (by decide) rfl⟩, hS.F ht⟩) hS.2.2 dX5_look_152
    · exfalso; have fc_3 : i_21.toInt < cn.toInt := zf_nle c_3 rfl rfl; omega
  | succ nfu ih =>
    intro i_21 v_2 g_1 H locs ls hP hD hS hl hwg_1 hbv_2 hvi_21_0 hvi_21_1 hvi_21_2 hloi_21 hni_21
    refine lv_iload hx hb dX5_look_21 (lv_at hl 0 rfl) ?_
    refine lv_aload_n hx hb dX5_look_23 rfl (lv_at hl 1 rfl) ?_
    refine va_get (D := D) (ci := 5) (v := .int cn) (C := RX5) (T := TX5) (N := 7) hx hb hts hi_X5_look_5 hown hK hP 0 rfl rfl 4 (by decide) (hts (.fieldLink RX5 27 "TheLiningsInIt$Ways" "count" "I") (List.mem_of_getElem? (i := 2) rfl)) (fun _ h9 => h9) rfl dX5_look_24 ?_
    refine lv_icmp_ge (tgt := 122) hx hb dX5_look_27 (by decide) (fun c_11 => ?_) (fun c_11 => ?_)
    · have fc_11 : cn.toInt ≤ i_21.toInt := zf_le c_11 rfl rfl
      refine lv_aload_n hx hb dX5_look_122 rfl (lv_at hl 2 rfl) ?_
      refine va_get (D := D) (ci := 0) (v := .ref jc) (C := RX0) (T := TX0) (N := 9) hx hb hts hi_X5_look_0 hown hK hP 5 rfl rfl 2 (by decide) (hts (.fieldLink RX5 58 "TheLiningsInIt$Jacket" "costs" "[I") (List.mem_of_getElem? (i := 12) rfl)) (fun _ h9 => h9) rfl dX5_look_123 ?_
      refine lv_iconst (v := 0) hx hb dX5_look_126 (by decide) ?_
      refine lv_aload_n hx hb dX5_look_127 rfl (lv_at hl 1 rfl) ?_
      refine va_get (D := D) (ci := 5) (v := .ref wc) (C := RX5) (T := TX5) (N := 7) hx hb hts hi_X5_look_5 hown hK hP 0 rfl rfl 2 (by decide) (hts (.fieldLink RX5 18 "TheLiningsInIt$Ways" "costs" "[I") (List.mem_of_getElem? (i := 13) rfl)) (fun _ h9 => h9) rfl dX5_look_128 ?_
      refine lv_iconst (v := 0) hx hb dX5_look_131 (by decide) ?_
      refine lv_iconst (v := 3) hx hb dX5_look_132 (by decide) ?_
      refine va_copyi hx hb (hml.trans hl.1.symm) hown (hts (.methodLink RX5 59 arraycopyName) (List.mem_of_getElem? (i := 14) rfl)) (hts _ (List.mem_of_getElem? (i := 15) rfl)) (hts _ (List.mem_of_getElem? (i := 16) rfl)) (hts _ (List.mem_of_getElem? (i := 17) rfl)) hK hP hD hS 7 3 0 0 rfl rfl rfl rfl rfl (by decide) (by decide) (by decide) (by decide) (by decide) (fun _ _ => rfl) (Nat.le_of_ble_eq_true rfl) (by decide) dX5_look_133 (fun H locs hP hD hS => ?_)
      have hpg_12 : zRg (va_cpy fjc fc (0 : Int32).toNatClampNeg (0 : Int32).toNatClampNeg (3 : Int32).toNatClampNeg) (0) 99 := zRg_cpy hp_fjc hp_fc
      obtain ⟨g_12, hg_12⟩ : ∃ g : Nat → Int32, g = va_cpy fjc fc (0 : Int32).toNatClampNeg (0 : Int32).toNatClampNeg (3 : Int32).toNatClampNeg := ⟨_, rfl⟩
      rw [← hg_12] at hP hD hpg_12
      have h9R := zRe (ws' := [(w0, .inr (5, [.ref wk, .ref wl, .ref wc, .ref wp, .int cn, .int h, .int v_2])), (wk, .inl (cI, 125, .inl fk)), (wl, .inl (cI, 125, .inl fl)), (wc, .inl (cI, 3, .inl g_12)), (wp, .inl (cP, 8, .inr (.inr (.inr (.inr g_1))))), (j0, .inr (0, [.ref z0, .ref jp, .ref jc, .int cn, .int de, .int tr, .int se, .int hu, .int sd])), (jp, .inl (cP, 8, .inr (.inr (.inr (.inr fp))))), (jc, .inl (cI, 3, .inl fjc))]) hP hD rfl
      clear hP hD
      obtain ⟨hP, hD⟩ := h9R
      refine lv_aload_n hx hb dX5_look_136 rfl (lv_at hl 1 rfl) ?_
      refine va_get (D := D) (ci := 5) (v := .ref wk) (C := RX5) (T := TX5) (N := 7) hx hb hts hi_X5_look_5 hown hK hP 0 rfl rfl 0 (by decide) (hts (.fieldLink RX5 9 "TheLiningsInIt$Ways" "knownMost" "[I") (List.mem_of_getElem? (i := 18) rfl)) (fun _ h9 => h9) rfl dX5_look_137 ?_
      refine lv_iconst (v := (-1)) hx hb dX5_look_140 (by decide) ?_
      skip
      refine zw_Sv (As := [.ref wk, .int (-1)]) (rest := []) (wr := [(w0, .inr (5, [.ref wk, .ref wl, .ref wc, .ref wp, .int cn, .int h, .int v_2])), (wl, .inl (cI, 125, .inl fl)), (wc, .inl (cI, 3, .inl g_12)), (wp, .inl (cP, 8, .inr (.inr (.inr (.inr g_1))))), (j0, .inr (0, [.ref z0, .ref jp, .ref jc, .int cn, .int de, .int tr, .int se, .int hu, .int sd])), (jp, .inl (cP, 8, .inr (.inr (.inr (.inr fp))))), (jc, .inl (cI, 3, .inl fjc))]) ⟨hx, hb, hml, hown, hts⟩ (c_F_fillI l D cI cJ cZ cP cS po wk fk ((-1))  H.size) (va_cwS 2 hts gX5_look_J7_fill_53178 rfl rfl rfl dh_J7_fill_53178 ⟨Nat.le_of_ble_eq_true rfl, Nat.le_of_ble_eq_true rfl⟩) hK hN (hZ.kept hS) hP hD hS hA [1] [0, 2, 3, 4, 5, 6, 7] rfl rfl (by decide) (by decide) (by decide) rfl hl.1 rfl (Nat.le_of_ble_eq_true rfl) dX5_look_141 ⟨Nat.le_of_ble_eq_true rfl, Nat.le_of_ble_eq_true rfl⟩ (fun u_14 H locs hr_13 hP hD hS => ?_)
      obtain ⟨q_15, rfl⟩ : ∃ z, z = u_14 := ⟨_, rfl⟩
      obtain ⟨hsr_13_0, hr_13⟩ := hr_13
      have h9R := zRe (ws' := [(w0, .inr (5, [.ref wk, .ref wl, .ref wc, .ref wp, .int cn, .int h, .int v_2])), (wl, .inl (cI, 125, .inl fl)), (wc, .inl (cI, 3, .inl g_12)), (wp, .inl (cP, 8, .inr (.inr (.inr (.inr g_1))))), (j0, .inr (0, [.ref z0, .ref jp, .ref jc, .int cn, .int de, .int tr, .int se, .int hu, .int sd])), (jp, .inl (cP, 8, .inr (.inr (.inr (.inr fp))))), (jc, .inl (cI, 3, .inl fjc)), (wk, .inl (cI, 125, .inl q_15))]) hP hD rfl
      clear hP hD
      obtain ⟨hP, hD⟩ := h9R
      refine lv_aload_n hx hb dX5_look_144 rfl (lv_at hl 1 rfl) ?_
      refine va_get (D := D) (ci := 5) (v := .ref wl) (C := RX5) (T := TX5) (N := 7) hx hb hts hi_X5_look_5 hown hK hP 0 rfl rfl 1 (by decide) (hts (.fieldLink RX5 15 "TheLiningsInIt$Ways" "knownLeast" "[I") (List.mem_of_getElem? (i := 19) rfl)) (fun _ h9 => h9) rfl dX5_look_145 ?_
      refine lv_iconst (v := (-1)) hx hb dX5_look_148 (by decide) ?_
      skip
      refine zw_Sv (As := [.ref wl, .int (-1)]) (rest := []) (wr := [(w0, .inr (5, [.ref wk, .ref wl, .ref wc, .ref wp, .int cn, .int h, .int v_2])), (wc, .inl (cI, 3, .inl g_12)), (wp, .inl (cP, 8, .inr (.inr (.inr (.inr g_1))))), (j0, .inr (0, [.ref z0, .ref jp, .ref jc, .int cn, .int de, .int tr, .int se, .int hu, .int sd])), (jp, .inl (cP, 8, .inr (.inr (.inr (.inr fp))))), (jc, .inl (cI, 3, .inl fjc)), (wk, .inl (cI, 125, .inl q_15))]) ⟨hx, hb, hml, hown, hts⟩ (c_F_fillI l D cI cJ cZ cP cS po wl fl ((-1))  H.size) (va_cwS 2 hts gX5_look_J7_fill_53178 rfl rfl rfl dh_J7_fill_53178 ⟨Nat.le_of_ble_eq_true rfl, Nat.le_of_ble_eq_true rfl⟩) hK hN (hZ.kept hS) hP hD hS hA [1] [0, 2, 3, 4, 5, 6, 7] rfl rfl (by decide) (by decide) (by decide) rfl hl.1 rfl (Nat.le_of_ble_eq_true rfl) dX5_look_149 ⟨Nat.le_of_ble_eq_true rfl, Nat.le_of_ble_eq_true rfl⟩ (fun u_17 H locs hr_16 hP hD hS => ?_)
      obtain ⟨q_18, rfl⟩ : ∃ z, z = u_17 := ⟨_, rfl⟩
      obtain ⟨hsr_16_0, hr_16⟩ := hr_16
      have h9R := zRe (ws' := [(w0, .inr (5, [.ref wk, .ref wl, .ref wc, .ref wp, .int cn, .int h, .int v_2])), (wc, .inl (cI, 3, .inl g_12)), (wp, .inl (cP, 8, .inr (.inr (.inr (.inr g_1))))), (j0, .inr (0, [.ref z0, .ref jp, .ref jc, .int cn, .int de, .int tr, .int se, .int hu, .int sd])), (jp, .inl (cP, 8, .inr (.inr (.inr (.inr fp))))), (jc, .inl (cI, 3, .inl fjc)), (wk, .inl (cI, 125, .inl q_15)), (wl, .inl (cI, 125, .inl q_18))]) hP hD rfl
      clear hP hD
      obtain ⟨hP, hD⟩ := h9R
      exact W.vret hx hb hr (fun t ht hW => ⟨⟨(cn, h, v_2, q_15, q_18, g_12, g_1), rfl, ⟨(show 0 ≤ cn.toInt ∧ cn.toInt ≤ 8 from ⟨hy6, hy7⟩), (show 0 ≤ h.toInt ∧ h.toInt ≤ 9 from ⟨hy12, hy13⟩), (show 0 ≤ v_2.toInt ∧ v_2.toInt ≤ 60 from hbv_2), hpg_12, hwg_1, (show zJW po g_1 cn kf af tf te from by (intro j hj; exact hvi_21_0 j (by omega))), (show (∀ p : Nat, (p : Int) < cn.toInt → (te.toInt ≠ 0 ∨ (kf p).toInt ≠ 5) → (tf p).toInt ≤ v_2.toInt) from by (intro p hp hl; exact hvi_21_1 p (by omega) hl)), (show cn = cn ∧ h = h from by exact ⟨rfl, rfl⟩), (show (∀ j : Nat, j < 3 → g_12 j = fjc j) from by (intro j hj; rw [hg_12]; unfold va_cpy; have k0 : (0 : Int32).toNatClampNeg = 0 := (by decide); have k3 : (3 : Int32).toNatClampNeg = 3 := (by decide); rw [k0, k3, if_pos (by omega)]; congr 1; omega)), (show (∀ j : Nat, j < 125 → (q_15 j).toInt = -1) from by (intro j hj; rw [hsr_13_0 j hj]; decide)), (show (∀ j : Nat, j < 125 → (q_18 j).toInt = -1) from by (intro j hj; rw [hsr_16_0 j hj]; decide)), trivial⟩, zRet ht hP hD [0, 6, 7, 1, 2, 3, 4, 5] (by decide) rfl⟩, hS.F ht⟩) hS.2.2 dX5_look_152
    · have fc_11 : i_21.toInt < cn.toInt := zf_nle c_11 rfl rfl
      refine lv_iload hx hb dX5_look_30 (lv_at hl 0 rfl) ?_
      refine lv_bipush (v := 8) hx hb dX5_look_32 (by decide) ?_
      refine lv_icmp_ge (tgt := 122) hx hb dX5_look_34 (by decide) (fun c_19 => ?_) (fun c_19 => ?_)
      · exfalso; have fc_19 : 8 ≤ i_21.toInt := zf_le c_19 (by decide) rfl; omega
      · have fc_19 : i_21.toInt < 8 := zf_nle c_19 (by decide) rfl
        refine lv_aload_n hx hb dX5_look_37 rfl (lv_at hl 2 rfl) ?_
        refine lv_iload hx hb dX5_look_38 (lv_at hl 0 rfl) ?_
        refine zc_Vq (As := [.int i_21]) (rest := []) ⟨hx, hb, hml, hown, hts⟩ (c_F_J_pullAt l D cI cJ cZ cP cS po j0 jp jc z0 0 0 (cn) (de) (tr) (se) (hu) (sd) fp kf af tf (i_21) hy6 hy7 hy8 hy9 hy10 hy11 hjp) (cwV 1 hts gX5_look_X0_pullAt rfl rfl rfl ⟨rfl, dh_X0_pullAt⟩ ⟨Nat.le_of_ble_eq_true rfl, Nat.le_of_ble_eq_true rfl⟩) hK hN (hZ.kept hS) hP (hP.sub [5, 6] rfl) (va_recv (q := (RX0, TX0, 9)) hK hP (ci := 0) (q0 := 5) rfl rfl) rfl hl.1 rfl (Nat.le_of_ble_eq_true rfl) dX5_look_40 ⟨Nat.le_of_ble_eq_true rfl, Nat.le_of_ble_eq_true rfl⟩ (fun r_20 hr_20 => ?_)
        rcases hr_20 with ⟨rfl, g_21⟩ | ⟨rfl, g_22, g_23⟩ | ⟨⟨u_25, kiu_25, au_25, tu_25, rfl, huu_25, hkku_25⟩, g_24⟩
        · exfalso; omega
        · exfalso; omega
        · refine W.eq (g2 := F0 m 43 ls (.ref u_25 :: [])) rfl ?_
          obtain ⟨hku_25, hau_25, htu_25⟩ := zPu_pr (hZ.kept hS) huu_25
          refine lv_astore (lv' := [(5, .ref u_25), (4, .int i_21), (0, .ref w0), (1, .ref j0), (2, .int h), (3, .int te)]) hx hb dX5_look_43 hl (by decide) rfl (fun ls hl => ?_)
          refine lv_aload hx hb dX5_look_45 (lv_at hl 0 rfl) ?_
          refine lv_ifnull hx hb dX5_look_47 ?_
          refine lv_iload_n hx hb dX5_look_50 rfl (lv_at hl 5 rfl) ?_
          refine lv_if_ne (tgt := 63) hx hb dX5_look_51 (by decide) (fun c_26 => ?_) (fun c_26 => ?_)
          · have fc_26 : te.toInt ≠ 0 := zf_ne c_26 rfl (by decide)
            refine lv_iconst (v := 1) hx hb dX5_look_63 (by decide) ?_
            refine lv_goto (tgt := 68) hx hb dX5_look_64 (by decide) ?_
            refine lv_istore (lv' := [(6, .int 1), (5, .ref u_25), (4, .int i_21), (0, .ref w0), (1, .ref j0), (2, .int h), (3, .int te)]) hx hb dX5_look_68 hl (by decide) rfl (fun ls hl => ?_)
            refine lv_aload_n hx hb dX5_look_70 rfl (lv_at hl 3 rfl) ?_
            refine va_get (D := D) (ci := 5) (v := .ref wp) (C := RX5) (T := TX5) (N := 7) hx hb hts hi_X5_look_5 hown hK hP 0 rfl rfl 3 (by decide) (hts (.fieldLink RX5 23 "TheLiningsInIt$Ways" "pulls" "[LTheLiningsInIt$Pull;") (List.mem_of_getElem? (i := 6) rfl)) (fun _ h9 => h9) rfl dX5_look_71 ?_
            refine lv_iload hx hb dX5_look_74 (lv_at hl 2 rfl) ?_
            refine lv_iload hx hb dX5_look_76 (lv_at hl 0 rfl) ?_
            refine lv_if_eq (tgt := 86) hx hb dX5_look_78 (by decide) (fun c_27 => ?_) (fun c_27 => ?_)
            · exact absurd c_27 (by decide)
            · refine lv_aload hx hb dX5_look_81 (lv_at hl 1 rfl) ?_
              refine lv_goto (tgt := 87) hx hb dX5_look_83 (by decide) ?_
              refine va_astqM hx hb hK hP hD hS 4 3 rfl rfl (zp_any hK (zPu_P (hZ.kept hS) huu_25)) (zf_in (by omega) (by omega)) dX5_look_87 (fun H locs hP hD hS => ?_)
              have hwg_28 : zWP po (va_up g_1 i_21.toNatClampNeg (some u_25)) := zWP_upd hwg_1 (Or.inr ⟨_, _, _, _, rfl, huu_25⟩)
              obtain ⟨g_28, hg_28⟩ : ∃ g : Nat → Option Nat, g = va_up g_1 i_21.toNatClampNeg (some u_25) := ⟨_, rfl⟩
              rw [← hg_28] at hP hD hwg_28
              have h9R := zRe (ws' := [(w0, .inr (5, [.ref wk, .ref wl, .ref wc, .ref wp, .int cn, .int h, .int v_2])), (wk, .inl (cI, 125, .inl fk)), (wl, .inl (cI, 125, .inl fl)), (wc, .inl (cI, 3, .inl fc)), (wp, .inl (cP, 8, .inr (.inr (.inr (.inr g_28))))), (j0, .inr (0, [.ref z0, .ref jp, .ref jc, .int cn, .int de, .int tr, .int se, .int hu, .int sd])), (jp, .inl (cP, 8, .inr (.inr (.inr (.inr fp))))), (jc, .inl (cI, 3, .inl fjc))]) hP hD rfl
              clear hP hD
              obtain ⟨hP, hD⟩ := h9R
              refine lv_aload_n hx hb dX5_look_88 rfl (lv_at hl 3 rfl) ?_
              refine lv_iload hx hb dX5_look_89 (lv_at hl 0 rfl) ?_
              refine lv_if_eq (tgt := 109) hx hb dX5_look_91 (by decide) (fun c_29 => ?_) (fun c_29 => ?_)
              · exact absurd c_29 (by decide)
              · refine lv_aload_n hx hb dX5_look_94 rfl (lv_at hl 3 rfl) ?_
                refine va_get (D := D) (ci := 5) (v := .int v_2) (C := RX5) (T := TX5) (N := 7) hx hb hts hi_X5_look_5 hown hK hP 0 rfl rfl 6 (by decide) (hts (.fieldLink RX5 34 "TheLiningsInIt$Ways" "longest" "I") (List.mem_of_getElem? (i := 4) rfl)) (fun _ h9 => h9) rfl dX5_look_95 ?_
                refine lv_aload hx hb dX5_look_98 (lv_at hl 1 rfl) ?_
                refine va_get (D := D) (ci := 2) (v := .int tu_25) (C := RX2) (T := TX2) (N := 3) hx hb hts hi_X5_look_2 hown hK (zPu_P (hZ.kept hS) huu_25) 0 rfl rfl 2 (by decide) (hts (.fieldLink RX5 49 "TheLiningsInIt$Pull" "takes" "I") (List.mem_of_getElem? (i := 7) rfl)) (fun _ h9 => h9) rfl dX5_look_100 ?_
                refine va_mmax hx hb (hml.trans hl.1.symm) hown (hts (.methodLink RX5 52 Lib.Math.max.name) (List.mem_of_getElem? (i := 8) rfl)) (hts _ (List.mem_of_getElem? (i := 9) rfl)) (hts _ (List.mem_of_getElem? (i := 10) rfl)) (hts _ (List.mem_of_getElem? (i := 11) rfl)) (Nat.le_of_ble_eq_true rfl) (Nat.le_of_ble_eq_true rfl) (Nat.le_of_ble_eq_true rfl) (Nat.le_of_ble_eq_true rfl) dX5_look_103 ?_
                refine lv_topi (fun x_30 ex_30 => ?_)
                have qx_30 := zf_max ex_30 (x1 := v_2.toInt) (y1 := tu_25.toInt) rfl rfl
                refine lv_goto (tgt := 113) hx hb dX5_look_106 (by decide) ?_
                refine va_put (D := D) (ci := 5) (v := .int x_30) (ty := .int) (C := RX5) (T := TX5) (N := 7) hx hb hts hi_X5_look_5 tyX5 tyX5_ok nmX5 hown hK hP hD hS 0 rfl rfl 6 (by decide) (hts (.fieldLink RX5 34 "TheLiningsInIt$Ways" "longest" "I") (List.mem_of_getElem? (i := 4) rfl)) (fun _ h9 => h9) rfl (tyX5_ok 6 (Nat.le_of_ble_eq_true rfl)) rfl rfl (Nat.le_of_ble_eq_true rfl) dX5_look_113 (fun H locs hP hD hS => ?_)
                have h9R := zRe (ws' := [(w0, .inr (5, [.ref wk, .ref wl, .ref wc, .ref wp, .int cn, .int h, .int x_30])), (wk, .inl (cI, 125, .inl fk)), (wl, .inl (cI, 125, .inl fl)), (wc, .inl (cI, 3, .inl fc)), (wp, .inl (cP, 8, .inr (.inr (.inr (.inr g_28))))), (j0, .inr (0, [.ref z0, .ref jp, .ref jc, .int cn, .int de, .int tr, .int se, .int hu, .int sd])), (jp, .inl (cP, 8, .inr (.inr (.inr (.inr fp))))), (jc, .inl (cI, 3, .inl fjc))]) hP hD rfl
                clear hP hD
                obtain ⟨hP, hD⟩ := h9R
                obtain ⟨x_31, ex_31⟩ : ∃ y : Int32, y = i_21 + 1 := ⟨_, rfl⟩
                have qx_31 : x_31.toInt = i_21.toInt + 1 := dw_incK ex_31 fc_19 (by decide)
                refine lv_iinc (v := x_31) (lv' := [(4, .int x_31), (6, .int 1), (5, .ref u_25), (0, .ref w0), (1, .ref j0), (2, .int h), (3, .int te)]) hx hb dX5_look_116 hl (k := 2) rfl ex_31.symm (by decide) rfl (fun ls hl => ?_)
                refine lv_goto (tgt := 21) hx hb dX5_look_119 (by decide) ?_
                exact ih x_31 (x_30) (g_28) _ _ _ (hP.sub [0, 1, 2, 3, 4, 5, 6, 7] rfl) (hD.sub [0, 1, 2, 3, 4, 5, 6, 7] (by decide) rfl) hS (lv_sub hl [0, 3, 4, 5, 6] rfl) hwg_28 ⟨by omega, by omega⟩ (show zJW po g_28 x_31 kf af tf te from by (obtain ⟨⟨y1, y2, y3⟩, y4, y5⟩ := hkku_25; rw [hg_28]; refine zJW_S hvi_21_0 (by omega) (by omega) (Or.inr ⟨u_25, rfl, ?_, ?_⟩); (rw [← y1, ← y2, ← y3]; exact huu_25); (rw [← y1]; omega))) (show (∀ p : Nat, (p : Int) < x_31.toInt → (te.toInt ≠ 0 ∨ (kf p).toInt ≠ 5) → (tf p).toInt ≤ (x_30 : Int32).toInt) from by (obtain ⟨⟨y1, y2, y3⟩, y4, y5⟩ := hkku_25; have y7 : i_21.toNatClampNeg = i_21.toInt.toNat := rfl; rw [y7] at y1 y3; intro p hp hl; rcases (show (p : Int) < i_21.toInt ∨ p = i_21.toInt.toNat by omega) with h9 | h9; (have z := hvi_21_1 p h9 hl; omega); (rw [h9, ← y3]; omega))) (show x_31.toInt ≤ cn.toInt from by omega) (dw_lo hloi_21 qx_31) (dw_hn hni_21 qx_31)
          · have fc_26 : te.toInt = 0 := zf_eq c_26 rfl (by decide)
            refine lv_aload hx hb dX5_look_54 (lv_at hl 0 rfl) ?_
            refine va_get (D := D) (ci := 2) (v := .int kiu_25) (C := RX2) (T := TX2) (N := 3) hx hb hts hi_X5_look_2 hown hK (zPu_P (hZ.kept hS) huu_25) 0 rfl rfl 0 (by decide) (hts (.fieldLink RX5 46 "TheLiningsInIt$Pull" "kind" "I") (List.mem_of_getElem? (i := 5) rfl)) (fun _ h9 => h9) rfl dX5_look_56 ?_
            refine lv_iconst (v := 5) hx hb dX5_look_59 (by decide) ?_
            refine lv_icmp_eq (tgt := 67) hx hb dX5_look_60 (by decide) (fun c_32 => ?_) (fun c_32 => ?_)
            · have fc_32 : kiu_25.toInt = 5 := zf_eq c_32 rfl (by decide)
              refine lv_iconst (v := 0) hx hb dX5_look_67 (by decide) ?_
              refine lv_istore (lv' := [(6, .int 0), (5, .ref u_25), (4, .int i_21), (0, .ref w0), (1, .ref j0), (2, .int h), (3, .int te)]) hx hb dX5_look_68 hl (by decide) rfl (fun ls hl => ?_)
              refine lv_aload_n hx hb dX5_look_70 rfl (lv_at hl 3 rfl) ?_
              refine va_get (D := D) (ci := 5) (v := .ref wp) (C := RX5) (T := TX5) (N := 7) hx hb hts hi_X5_look_5 hown hK hP 0 rfl rfl 3 (by decide) (hts (.fieldLink RX5 23 "TheLiningsInIt$Ways" "pulls" "[LTheLiningsInIt$Pull;") (List.mem_of_getElem? (i := 6) rfl)) (fun _ h9 => h9) rfl dX5_look_71 ?_
              refine lv_iload hx hb dX5_look_74 (lv_at hl 2 rfl) ?_
              refine lv_iload hx hb dX5_look_76 (lv_at hl 0 rfl) ?_
              refine lv_if_eq (tgt := 86) hx hb dX5_look_78 (by decide) (fun c_33 => ?_) (fun c_33 => ?_)
              · refine lv_null hx hb dX5_look_86 ?_
                refine va_astqN hx hb hK hP hD hS 4 3 rfl rfl (zf_in (by omega) (by omega)) dX5_look_87 (fun H locs hP hD hS => ?_)
                have hwg_34 : zWP po (va_up g_1 i_21.toNatClampNeg none) := zWP_upd hwg_1 (Or.inl rfl)
                obtain ⟨g_34, hg_34⟩ : ∃ g : Nat → Option Nat, g = va_up g_1 i_21.toNatClampNeg none := ⟨_, rfl⟩
                rw [← hg_34] at hP hD hwg_34
                have h9R := zRe (ws' := [(w0, .inr (5, [.ref wk, .ref wl, .ref wc, .ref wp, .int cn, .int h, .int v_2])), (wk, .inl (cI, 125, .inl fk)), (wl, .inl (cI, 125, .inl fl)), (wc, .inl (cI, 3, .inl fc)), (wp, .inl (cP, 8, .inr (.inr (.inr (.inr g_34))))), (j0, .inr (0, [.ref z0, .ref jp, .ref jc, .int cn, .int de, .int tr, .int se, .int hu, .int sd])), (jp, .inl (cP, 8, .inr (.inr (.inr (.inr fp))))), (jc, .inl (cI, 3, .inl fjc))]) hP hD rfl
                clear hP hD
                obtain ⟨hP, hD⟩ := h9R
                refine lv_aload_n hx hb dX5_look_88 rfl (lv_at hl 3 rfl) ?_
                refine lv_iload hx hb dX5_look_89 (lv_at hl 0 rfl) ?_
                refine lv_if_eq (tgt := 109) hx hb dX5_look_91 (by decide) (fun c_35 => ?_) (fun c_35 => ?_)
                · refine lv_aload_n hx hb dX5_look_109 rfl (lv_at hl 3 rfl) ?_
                  refine va_get (D := D) (ci := 5) (v := .int v_2) (C := RX5) (T := TX5) (N := 7) hx hb hts hi_X5_look_5 hown hK hP 0 rfl rfl 6 (by decide) (hts (.fieldLink RX5 34 "TheLiningsInIt$Ways" "longest" "I") (List.mem_of_getElem? (i := 4) rfl)) (fun _ h9 => h9) rfl dX5_look_110 ?_
                  refine va_put (D := D) (ci := 5) (v := .int v_2) (ty := .int) (C := RX5) (T := TX5) (N := 7) hx hb hts hi_X5_look_5 tyX5 tyX5_ok nmX5 hown hK hP hD hS 0 rfl rfl 6 (by decide) (hts (.fieldLink RX5 34 "TheLiningsInIt$Ways" "longest" "I") (List.mem_of_getElem? (i := 4) rfl)) (fun _ h9 => h9) rfl (tyX5_ok 6 (Nat.le_of_ble_eq_true rfl)) rfl rfl (Nat.le_of_ble_eq_true rfl) dX5_look_113 (fun H locs hP hD hS => ?_)
                  have h9R := zRe (ws' := [(w0, .inr (5, [.ref wk, .ref wl, .ref wc, .ref wp, .int cn, .int h, .int v_2])), (wk, .inl (cI, 125, .inl fk)), (wl, .inl (cI, 125, .inl fl)), (wc, .inl (cI, 3, .inl fc)), (wp, .inl (cP, 8, .inr (.inr (.inr (.inr g_34))))), (j0, .inr (0, [.ref z0, .ref jp, .ref jc, .int cn, .int de, .int tr, .int se, .int hu, .int sd])), (jp, .inl (cP, 8, .inr (.inr (.inr (.inr fp))))), (jc, .inl (cI, 3, .inl fjc))]) hP hD rfl
                  clear hP hD
                  obtain ⟨hP, hD⟩ := h9R
                  obtain ⟨x_36, ex_36⟩ : ∃ y : Int32, y = i_21 + 1 := ⟨_, rfl⟩
                  have qx_36 : x_36.toInt = i_21.toInt + 1 := dw_incK ex_36 fc_19 (by decide)
                  refine lv_iinc (v := x_36) (lv' := [(4, .int x_36), (6, .int 0), (5, .ref u_25), (0, .ref w0), (1, .ref j0), (2, .int h), (3, .int te)]) hx hb dX5_look_116 hl (k := 2) rfl ex_36.symm (by decide) rfl (fun ls hl => ?_)
                  refine lv_goto (tgt := 21) hx hb dX5_look_119 (by decide) ?_
                  exact ih x_36 (v_2) (g_34) _ _ _ (hP.sub [0, 1, 2, 3, 4, 5, 6, 7] rfl) (hD.sub [0, 1, 2, 3, 4, 5, 6, 7] (by decide) rfl) hS (lv_sub hl [0, 3, 4, 5, 6] rfl) hwg_34 hbv_2 (show zJW po g_34 x_36 kf af tf te from by (obtain ⟨⟨y1, y2, y3⟩, y4, y5⟩ := hkku_25; rw [hg_34]; refine zJW_S hvi_21_0 (by omega) (by omega) (Or.inl ⟨rfl, ?_⟩); rw [← y1]; omega)) (show (∀ p : Nat, (p : Int) < x_36.toInt → (te.toInt ≠ 0 ∨ (kf p).toInt ≠ 5) → (tf p).toInt ≤ (v_2 : Int32).toInt) from by (obtain ⟨⟨y1, y2, y3⟩, y4, y5⟩ := hkku_25; have y7 : i_21.toNatClampNeg = i_21.toInt.toNat := rfl; rw [y7] at y1 y3; intro p hp hl; rcases (show (p : Int) < i_21.toInt ∨ p = i_21.toInt.toNat by omega) with h9 | h9; (have z := hvi_21_1 p h9 hl; omega); (rw [h9, ← y1] at hl; omega))) (show x_36.toInt ≤ cn.toInt from by omega) (dw_lo hloi_21 qx_36) (dw_hn hni_21 qx_36)
                · exact absurd c_35 (by decide)
              · exact absurd c_33 (by decide)
            · have fc_32 : kiu_25.toInt ≠ 5 := zf_ne c_32 rfl (by decide)
              refine lv_iconst (v := 1) hx hb dX5_look_63 (by decide) ?_
              refine lv_goto (tgt := 68) hx hb dX5_look_64 (by decide) ?_
              refine lv_istore (lv' := [(6, .int 1), (5, .ref u_25), (4, .int i_21), (0, .ref w0), (1, .ref j0), (2, .int h), (3, .int te)]) hx hb dX5_look_68 hl (by decide) rfl (fun ls hl => ?_)
              refine lv_aload_n hx hb dX5_look_70 rfl (lv_at hl 3 rfl) ?_
              refine va_get (D := D) (ci := 5) (v := .ref wp) (C := RX5) (T := TX5) (N := 7) hx hb hts hi_X5_look_5 hown hK hP 0 rfl rfl 3 (by decide) (hts (.fieldLink RX5 23 "TheLiningsInIt$Ways" "pulls" "[LTheLiningsInIt$Pull;") (List.mem_of_getElem? (i := 6) rfl)) (fun _ h9 => h9) rfl dX5_look_71 ?_
              refine lv_iload hx hb dX5_look_74 (lv_at hl 2 rfl) ?_
              refine lv_iload hx hb dX5_look_76 (lv_at hl 0 rfl) ?_
              refine lv_if_eq (tgt := 86) hx hb dX5_look_78 (by decide) (fun c_37 => ?_) (fun c_37 => ?_)
              · exact absurd c_37 (by decide)
              · refine lv_aload hx hb dX5_look_81 (lv_at hl 1 rfl) ?_
                refine lv_goto (tgt := 87) hx hb dX5_look_83 (by decide) ?_
                refine va_astqM hx hb hK hP hD hS 4 3 rfl rfl (zp_any hK (zPu_P (hZ.kept hS) huu_25)) (zf_in (by omega) (by omega)) dX5_look_87 (fun H locs hP hD hS => ?_)
                have hwg_38 : zWP po (va_up g_1 i_21.toNatClampNeg (some u_25)) := zWP_upd hwg_1 (Or.inr ⟨_, _, _, _, rfl, huu_25⟩)
                obtain ⟨g_38, hg_38⟩ : ∃ g : Nat → Option Nat, g = va_up g_1 i_21.toNatClampNeg (some u_25) := ⟨_, rfl⟩
                rw [← hg_38] at hP hD hwg_38
                have h9R := zRe (ws' := [(w0, .inr (5, [.ref wk, .ref wl, .ref wc, .ref wp, .int cn, .int h, .int v_2])), (wk, .inl (cI, 125, .inl fk)), (wl, .inl (cI, 125, .inl fl)), (wc, .inl (cI, 3, .inl fc)), (wp, .inl (cP, 8, .inr (.inr (.inr (.inr g_38))))), (j0, .inr (0, [.ref z0, .ref jp, .ref jc, .int cn, .int de, .int tr, .int se, .int hu, .int sd])), (jp, .inl (cP, 8, .inr (.inr (.inr (.inr fp))))), (jc, .inl (cI, 3, .inl fjc))]) hP hD rfl
                clear hP hD
                obtain ⟨hP, hD⟩ := h9R
                refine lv_aload_n hx hb dX5_look_88 rfl (lv_at hl 3 rfl) ?_
                refine lv_iload hx hb dX5_look_89 (lv_at hl 0 rfl) ?_
                refine lv_if_eq (tgt := 109) hx hb dX5_look_91 (by decide) (fun c_39 => ?_) (fun c_39 => ?_)
                · exact absurd c_39 (by decide)
                · refine lv_aload_n hx hb dX5_look_94 rfl (lv_at hl 3 rfl) ?_
                  refine va_get (D := D) (ci := 5) (v := .int v_2) (C := RX5) (T := TX5) (N := 7) hx hb hts hi_X5_look_5 hown hK hP 0 rfl rfl 6 (by decide) (hts (.fieldLink RX5 34 "TheLiningsInIt$Ways" "longest" "I") (List.mem_of_getElem? (i := 4) rfl)) (fun _ h9 => h9) rfl dX5_look_95 ?_
                  refine lv_aload hx hb dX5_look_98 (lv_at hl 1 rfl) ?_
                  refine va_get (D := D) (ci := 2) (v := .int tu_25) (C := RX2) (T := TX2) (N := 3) hx hb hts hi_X5_look_2 hown hK (zPu_P (hZ.kept hS) huu_25) 0 rfl rfl 2 (by decide) (hts (.fieldLink RX5 49 "TheLiningsInIt$Pull" "takes" "I") (List.mem_of_getElem? (i := 7) rfl)) (fun _ h9 => h9) rfl dX5_look_100 ?_
                  refine va_mmax hx hb (hml.trans hl.1.symm) hown (hts (.methodLink RX5 52 Lib.Math.max.name) (List.mem_of_getElem? (i := 8) rfl)) (hts _ (List.mem_of_getElem? (i := 9) rfl)) (hts _ (List.mem_of_getElem? (i := 10) rfl)) (hts _ (List.mem_of_getElem? (i := 11) rfl)) (Nat.le_of_ble_eq_true rfl) (Nat.le_of_ble_eq_true rfl) (Nat.le_of_ble_eq_true rfl) (Nat.le_of_ble_eq_true rfl) dX5_look_103 ?_
                  refine lv_topi (fun x_40 ex_40 => ?_)
                  have qx_40 := zf_max ex_40 (x1 := v_2.toInt) (y1 := tu_25.toInt) rfl rfl
                  refine lv_goto (tgt := 113) hx hb dX5_look_106 (by decide) ?_
                  refine va_put (D := D) (ci := 5) (v := .int x_40) (ty := .int) (C := RX5) (T := TX5) (N := 7) hx hb hts hi_X5_look_5 tyX5 tyX5_ok nmX5 hown hK hP hD hS 0 rfl rfl 6 (by decide) (hts (.fieldLink RX5 34 "TheLiningsInIt$Ways" "longest" "I") (List.mem_of_getElem? (i := 4) rfl)) (fun _ h9 => h9) rfl (tyX5_ok 6 (Nat.le_of_ble_eq_true rfl)) rfl rfl (Nat.le_of_ble_eq_true rfl) dX5_look_113 (fun H locs hP hD hS => ?_)
                  have h9R := zRe (ws' := [(w0, .inr (5, [.ref wk, .ref wl, .ref wc, .ref wp, .int cn, .int h, .int x_40])), (wk, .inl (cI, 125, .inl fk)), (wl, .inl (cI, 125, .inl fl)), (wc, .inl (cI, 3, .inl fc)), (wp, .inl (cP, 8, .inr (.inr (.inr (.inr g_38))))), (j0, .inr (0, [.ref z0, .ref jp, .ref jc, .int cn, .int de, .int tr, .int se, .int hu, .int sd])), (jp, .inl (cP, 8, .inr (.inr (.inr (.inr fp))))), (jc, .inl (cI, 3, .inl fjc))]) hP hD rfl
                  clear hP hD
                  obtain ⟨hP, hD⟩ := h9R
                  obtain ⟨x_41, ex_41⟩ : ∃ y : Int32, y = i_21 + 1 := ⟨_, rfl⟩
                  have qx_41 : x_41.toInt = i_21.toInt + 1 := dw_incK ex_41 fc_19 (by decide)
                  refine lv_iinc (v := x_41) (lv' := [(4, .int x_41), (6, .int 1), (5, .ref u_25), (0, .ref w0), (1, .ref j0), (2, .int h), (3, .int te)]) hx hb dX5_look_116 hl (k := 2) rfl ex_41.symm (by decide) rfl (fun ls hl => ?_)
                  refine lv_goto (tgt := 21) hx hb dX5_look_119 (by decide) ?_
                  exact ih x_41 (x_40) (g_38) _ _ _ (hP.sub [0, 1, 2, 3, 4, 5, 6, 7] rfl) (hD.sub [0, 1, 2, 3, 4, 5, 6, 7] (by decide) rfl) hS (lv_sub hl [0, 3, 4, 5, 6] rfl) hwg_38 ⟨by omega, by omega⟩ (show zJW po g_38 x_41 kf af tf te from by (obtain ⟨⟨y1, y2, y3⟩, y4, y5⟩ := hkku_25; rw [hg_38]; refine zJW_S hvi_21_0 (by omega) (by omega) (Or.inr ⟨u_25, rfl, ?_, ?_⟩); (rw [← y1, ← y2, ← y3]; exact huu_25); (rw [← y1]; omega))) (show (∀ p : Nat, (p : Int) < x_41.toInt → (te.toInt ≠ 0 ∨ (kf p).toInt ≠ 5) → (tf p).toInt ≤ (x_40 : Int32).toInt) from by (obtain ⟨⟨y1, y2, y3⟩, y4, y5⟩ := hkku_25; have y7 : i_21.toNatClampNeg = i_21.toInt.toNat := rfl; rw [y7] at y1 y3; intro p hp hl; rcases (show (p : Int) < i_21.toInt ∨ p = i_21.toInt.toNat by omega) with h9 | h9; (have z := hvi_21_1 p h9 hl; omega); (rw [h9, ← y3]; omega))) (show x_41.toInt ≤ cn.toInt from by omega) (dw_lo hloi_21 qx_41) (dw_hn hni_21 qx_41)

