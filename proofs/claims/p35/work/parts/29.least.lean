theorem hi_X5_least_5 : ∀ w ∈ u_ws RX5 TX5 7, w ∈ wsX5_least := fun w h => (gl_X5_least_X50 w h).1
set_option maxHeartbeats 4000000 in
set_option maxRecDepth 100000 in
theorem c_W_least_0 (l : Launch) (D : va_G) (cI cJ cZ cP cS : ClassId) (po : zPool) (w0 wk wl wc wp : Nat) (wn wh wg : Int32) (fp : Nat → Option Nat) (fl fc : Nat → Int32) (d sec : Int32) (hy0 : 0 ≤ wn.toInt) (hy1 : wn.toInt ≤ 8) (hy2 : 0 ≤ wh.toInt) (hy3 : wh.toInt ≤ 9) (hy4 : 0 ≤ wg.toInt) (hy5 : wg.toInt ≤ 60) (hwp : zWP po fp) (hy7 : 0 ≤ d.toInt) (hy8 : d.toInt ≤ 24) (hp_fc : zRg fc (0) 99) (hpz : Nat) : Met l yX5_least wsX5_least ({ frames := 2, cells := 0, slots := 0, locals := 43 }) (va_Pc [.ref w0, .int 0, .int d, .int sec] (zW D (zKT cI cJ cZ cP cS) po [(w0, .inr (5, [.ref wk, .ref wl, .ref wc, .ref wp, .int wn, .int wh, .int wg])), (wl, .inl (cI, 125, .inl fl)), (wc, .inl (cI, 3, .inl fc)), (wp, .inl (cP, 8, .inr (.inr (.inr (.inr fp)))))] hpz)) (va_Qi (fun (r : Int32) (fl2 : (Nat → Int32)) => True) (zB D [(w0, .inr (5, [.ref wk, .ref wl, .ref wc, .ref wp, .int wn, .int wh, .int wg])), (wl, .inl (cI, 125, .inl fl)), (wc, .inl (cI, 3, .inl fc)), (wp, .inl (cP, 8, .inr (.inr (.inr (.inr fp)))))] hpz (fun (fl2 : Nat → Int32) => [(w0, .inr (5, [.ref wk, .ref wl, .ref wc, .ref wp, .int wn, .int wh, .int wg])), (wl, .inl (cI, 125, .inl fl2)), (wc, .inl (cI, 3, .inl fc)), (wp, .inl (cP, 8, .inr (.inr (.inr (.inr fp)))))])) (va_A [(w0, .inr (5, [.ref wk, .ref wl, .ref wc, .ref wp, .int wn, .int wh, .int wg])), (wl, .inl (cI, 125, .inl fl)), (wc, .inl (cI, 3, .inl fc)), (wp, .inl (cP, 8, .inr (.inr (.inr (.inr fp)))))] hpz)) 0 0 (va_A [(w0, .inr (5, [.ref wk, .ref wl, .ref wc, .ref wp, .int wn, .int wh, .int wg])), (wl, .inl (cI, 125, .inl fl)), (wc, .inl (cI, 3, .inl fc)), (wp, .inl (cP, 8, .inr (.inr (.inr (.inr fp)))))] hpz) := by
  refine Met.ofW (cc := cX5_least) (maxL := 9) (ret := (some .int)) (by decide) rfl ?_
  intro p e s m args below meth c s₁ B hml hv
  obtain ⟨rfl, hsz, hP, hK, hD0, hN, hZ⟩ := hv
  have hx := B.exec
  have hb := B.bytes
  have hr := B.returns
  have hts := atoms_spec (ws := wsX5_least) B.pre
  have hown : s.vm.findClass RX5 = some m.cls := findClass_of_methodNamed B.named
  have hlocks := B.notSynchronized
  subst hsz
  have hD := hD0.self (sz := s.heap.size)
  have hA := zA_of hD
  have hl := lv_entry ([.ref w0, .int 0, .int d, .int sec]) (n := 9) (Nat.le_of_ble_eq_true rfl)
  rw [lg_entry_eq]
  generalize (lg_sl ([.ref w0, .int 0, .int d, .int sec]) ++ List.replicate (9 - (lg_sl ([.ref w0, .int 0, .int d, .int sec])).length) Slot.unset).toArray = ls at hl ⊢
  replace hl : lv_has ls 9 [(0, .ref w0), (1, .int 0), (2, .int d), (3, .int sec)] := hl
  refine zw_begin hP hD (fun H locs hP1 hS => ?_)
  clear hP
  have hP := hP1
  clear hP1
  refine lv_iload_n hx hb dX5_least_0 rfl (lv_at hl 1 rfl) ?_
  refine lv_if_lt (tgt := 20) hx hb dX5_least_1 (by decide) (fun c_1 => ?_) (fun c_1 => ?_)
  · exact absurd c_1 (by decide)
  · refine lv_iload_n hx hb dX5_least_4 rfl (lv_at hl 1 rfl) ?_
    refine lv_iconst (v := 4) hx hb dX5_least_5 (by decide) ?_
    refine lv_icmp_gt (tgt := 20) hx hb dX5_least_6 (by decide) (fun c_2 => ?_) (fun c_2 => ?_)
    · exact absurd c_2 (by decide)
    · refine lv_iload_n hx hb dX5_least_9 rfl (lv_at hl 2 rfl) ?_
      refine lv_iconst (v := 1) hx hb dX5_least_10 (by decide) ?_
      refine lv_icmp_lt (tgt := 20) hx hb dX5_least_11 (by decide) (fun c_3 => ?_) (fun c_3 => ?_)
      · have fc_3 : d.toInt < 1 := zf_lt c_3 rfl (by decide)
        refine lv_iconst (v := 0) hx hb dX5_least_20 (by decide) ?_
        exact W.iret (v := 0) hx hb hr (fun t ht hW => ⟨⟨0, fl, rfl, trivial, zRet ht hP hD [0, 1, 2, 3] (by decide) rfl⟩, hS.F ht⟩) hS.2.2 dX5_least_21
      · have fc_3 : 1 ≤ d.toInt := zf_nlt c_3 rfl (by decide)
        refine lv_iload_n hx hb dX5_least_14 rfl (lv_at hl 2 rfl) ?_
        refine lv_bipush (v := 24) hx hb dX5_least_15 (by decide) ?_
        refine lv_icmp_le (tgt := 22) hx hb dX5_least_17 (by decide) (fun c_4 => ?_) (fun c_4 => ?_)
        · have fc_4 : d.toInt ≤ 24 := zf_le c_4 rfl (by decide)
          refine lv_iload_n hx hb dX5_least_22 rfl (lv_at hl 3 rfl) ?_
          refine lv_iload_n hx hb dX5_least_23 rfl (lv_at hl 1 rfl) ?_
          refine lv_aload_n hx hb dX5_least_24 rfl (lv_at hl 0 rfl) ?_
          refine va_get (D := D) (ci := 5) (v := .int wg) (C := RX5) (T := TX5) (N := 7) hx hb hts hi_X5_least_5 hown hK hP 0 rfl rfl 6 (by decide) (hts (.fieldLink RX5 34 "TheLiningsInIt$Ways" "longest" "I") (List.mem_of_getElem? (i := 1) rfl)) (fun _ h9 => h9) rfl dX5_least_25 ?_
          refine lv_imul hx hb dX5_least_28 ?_
          refine lv_topi (fun x_5 ex_5 => ?_)
          have qx_5 : x_5.toInt = 0 * wg.toInt := by rw [ex_5]; exact zf_mul (by decide) rfl (by omega) (by omega)
          refine lv_bipush (v := 30) hx hb dX5_least_29 (by decide) ?_
          refine lv_iadd hx hb dX5_least_31 ?_
          refine lv_topi (fun x_6 ex_6 => ?_)
          have qx_6 : x_6.toInt = x_5.toInt + 30 := by rw [ex_6]; exact zf_add rfl (by decide) (by omega) (by omega)
          refine lv_icmp_lt (tgt := 39) hx hb dX5_least_32 (by decide) (fun c_7 => ?_) (fun c_7 => ?_)
          · have fc_7 : sec.toInt < x_6.toInt := zf_lt c_7 rfl rfl
            refine lv_iconst (v := 0) hx hb dX5_least_39 (by decide) ?_
            refine lv_istore (lv' := [(4, .int 0), (0, .ref w0), (1, .int 0), (2, .int d), (3, .int sec)]) hx hb dX5_least_40 hl (by decide) rfl (fun ls hl => ?_)
            refine lv_iload_n hx hb dX5_least_42 rfl (lv_at hl 2 rfl) ?_
            refine lv_bipush (v := 25) hx hb dX5_least_43 (by decide) ?_
            refine lv_imul hx hb dX5_least_45 ?_
            refine lv_topi (fun y_8 ey_8 => ?_)
            obtain rfl : y_8 = 0 := ey_8.trans (by decide)
            refine lv_iload_n hx hb dX5_least_46 rfl (lv_at hl 3 rfl) ?_
            refine lv_iadd hx hb dX5_least_47 ?_
            refine lv_topi (fun x_9 ex_9 => ?_)
            have qx_9 : x_9.toInt = 0 + d.toInt := by rw [ex_9]; exact zf_add (by decide) rfl (by omega) (by omega)
            refine lv_istore (lv' := [(5, .int x_9), (4, .int 0), (0, .ref w0), (1, .int 0), (2, .int d), (3, .int sec)]) hx hb dX5_least_48 hl (by decide) rfl (fun ls hl => ?_)
            refine lv_iload hx hb dX5_least_50 (lv_at hl 1 rfl) ?_
            refine lv_if_eq (tgt := 74) hx hb dX5_least_52 (by decide) (fun c_10 => ?_) (fun c_10 => ?_)
            · refine lv_aload_n hx hb dX5_least_74 rfl (lv_at hl 2 rfl) ?_
              refine lv_iload_n hx hb dX5_least_75 rfl (lv_at hl 3 rfl) ?_
              refine lv_iload_n hx hb dX5_least_76 rfl (lv_at hl 5 rfl) ?_
              refine zc_V (As := [.int 0, .int sec]) (rest := []) ⟨hx, hb, hml, hown, hts⟩ (c_W_leastAtOnce_0 l D cI cJ cZ cP cS po w0 wk wl wc wp (wn) (wh) (wg) fc (sec) hy0 hy1 hy2 hy3 hy4 hy5 hp_fc) (cwV 2 hts gX5_least_X5_leastAtOnce rfl rfl rfl ⟨rfl, dh_X5_leastAtOnce⟩ ⟨Nat.le_of_ble_eq_true rfl, Nat.le_of_ble_eq_true rfl⟩) hK hN (hZ.kept hS) hP (hP.sub [0, 2] rfl) (va_recv (q := (RX5, TX5, 7)) hK hP (ci := 5) (q0 := 0) rfl rfl) rfl hl.1 rfl (Nat.le_of_ble_eq_true rfl) dX5_least_77 ⟨Nat.le_of_ble_eq_true rfl, Nat.le_of_ble_eq_true rfl⟩ (fun r_11 hr_11 => ?_)
              refine lv_istore (lv' := [(6, .int r_11), (5, .int x_9), (4, .int 0), (0, .ref w0), (1, .int 0), (2, .int d), (3, .int sec)]) hx hb dX5_least_80 hl (by decide) rfl (fun ls hl => ?_)
              refine lv_iconst (v := 0) hx hb dX5_least_82 (by decide) ?_
              refine lv_istore (lv' := [(7, .int 0), (6, .int r_11), (5, .int x_9), (4, .int 0), (0, .ref w0), (1, .int 0), (2, .int d), (3, .int sec)]) hx hb dX5_least_83 hl (by decide) rfl (fun ls hl => ?_)
              obtain ⟨i_85, hi_85⟩ : ∃ i : Int32, i = 0 := ⟨_, rfl⟩
              replace hl : lv_has ls 9 [(7, .int i_85), (6, .int r_11), (5, .int x_9), (4, .int 0), (0, .ref w0), (1, .int 0), (2, .int d), (3, .int sec)] := by rw [hi_85]; exact lv_sub hl [0, 1, 2, 3, 4, 5, 6, 7] rfl
              have h1i_85 : i_85.toInt = 0 := by rw [hi_85]; decide
              obtain ⟨nfu, hni_85⟩ : ∃ nq9 : Nat, wn.toInt ≤ i_85.toInt + (nq9 : Int) := ⟨((wn.toInt : Int) - 0).toNat, by omega⟩
              have hloi_85 : 0 ≤ i_85.toInt := by omega
              obtain ⟨g_12, hg_12⟩ : ∃ g : Nat → Int32, g = fl := ⟨_, rfl⟩
              replace hP : va_P D vwCl [(w0, .inr (5, [.ref wk, .ref wl, .ref wc, .ref wp, .int wn, .int wh, .int wg])), (wl, .inl (cI, 125, .inl g_12)), (wc, .inl (cI, 3, .inl fc)), (wp, .inl (cP, 8, .inr (.inr (.inr (.inr fp)))))] H := by rw [hg_12]; exact hP
              replace hD : va_D (va_A [(w0, .inr (5, [.ref wk, .ref wl, .ref wc, .ref wp, .int wn, .int wh, .int wg])), (wl, .inl (cI, 125, .inl fl)), (wc, .inl (cI, 3, .inl fc)), (wp, .inl (cP, 8, .inr (.inr (.inr (.inr fp)))))] s.heap.size) [(w0, .inr (5, [.ref wk, .ref wl, .ref wc, .ref wp, .int wn, .int wh, .int wg])), (wl, .inl (cI, 125, .inl g_12)), (wc, .inl (cI, 3, .inl fc)), (wp, .inl (cP, 8, .inr (.inr (.inr (.inr fp)))))] := by rw [hg_12]; exact hD
              obtain ⟨v_13, hv_13⟩ : ∃ g : Int32, g = r_11 := ⟨_, rfl⟩
              replace hl : lv_has ls 9 [(7, .int i_85), (6, .int v_13), (5, .int x_9), (4, .int 0), (0, .ref w0), (1, .int 0), (2, .int d), (3, .int sec)] := by rw [hv_13]; exact hl
              clear h1i_85 hi_85 hg_12 hv_13
              skip
              revert hni_85
              revert hloi_85
              revert hl
              revert hS
              revert hD
              revert hP
              revert ls
              revert locs
              revert H
              revert g_12
              revert v_13
              revert i_85
              induction nfu with
              | zero =>
                intro i_85 v_13 g_12 H locs ls hP hD hS hl hloi_85 hni_85
                have hzi_85 : wn.toInt ≤ i_85.toInt := by omega
                refine lv_iload hx hb dX5_least_85 (lv_at hl 0 rfl) ?_
                refine lv_aload_n hx hb dX5_least_87 rfl (lv_at hl 4 rfl) ?_
                refine va_get (D := D) (ci := 5) (v := .int wn) (C := RX5) (T := TX5) (N := 7) hx hb hts hi_X5_least_5 hown hK hP 0 rfl rfl 4 (by decide) (hts (.fieldLink RX5 27 "TheLiningsInIt$Ways" "count" "I") (List.mem_of_getElem? (i := 3) rfl)) (fun _ h9 => h9) rfl dX5_least_88 ?_
                refine lv_icmp_ge (tgt := 135) hx hb dX5_least_91 (by decide) (fun c_14 => ?_) (fun c_14 => ?_)
                · have fc_14 : wn.toInt ≤ i_85.toInt := zf_le c_14 rfl rfl
                  refine lv_iload hx hb dX5_least_135 (lv_at hl 3 rfl) ?_
                  refine lv_if_eq (tgt := 149) hx hb dX5_least_137 (by decide) (fun c_15 => ?_) (fun c_15 => ?_)
                  · refine lv_iload hx hb dX5_least_149 (lv_at hl 1 rfl) ?_
                    exact W.iret (v := v_13) hx hb hr (fun t ht hW => ⟨⟨v_13, g_12, rfl, trivial, zRet ht hP hD [0, 1, 2, 3] (by decide) rfl⟩, hS.F ht⟩) hS.2.2 dX5_least_151
                  · exact absurd c_15 (by decide)
                · exfalso; have fc_14 : i_85.toInt < wn.toInt := zf_nle c_14 rfl rfl; omega
              | succ nfu ih =>
                intro i_85 v_13 g_12 H locs ls hP hD hS hl hloi_85 hni_85
                refine lv_iload hx hb dX5_least_85 (lv_at hl 0 rfl) ?_
                refine lv_aload_n hx hb dX5_least_87 rfl (lv_at hl 4 rfl) ?_
                refine va_get (D := D) (ci := 5) (v := .int wn) (C := RX5) (T := TX5) (N := 7) hx hb hts hi_X5_least_5 hown hK hP 0 rfl rfl 4 (by decide) (hts (.fieldLink RX5 27 "TheLiningsInIt$Ways" "count" "I") (List.mem_of_getElem? (i := 3) rfl)) (fun _ h9 => h9) rfl dX5_least_88 ?_
                refine lv_icmp_ge (tgt := 135) hx hb dX5_least_91 (by decide) (fun c_16 => ?_) (fun c_16 => ?_)
                · have fc_16 : wn.toInt ≤ i_85.toInt := zf_le c_16 rfl rfl
                  refine lv_iload hx hb dX5_least_135 (lv_at hl 3 rfl) ?_
                  refine lv_if_eq (tgt := 149) hx hb dX5_least_137 (by decide) (fun c_17 => ?_) (fun c_17 => ?_)
                  · refine lv_iload hx hb dX5_least_149 (lv_at hl 1 rfl) ?_
                    exact W.iret (v := v_13) hx hb hr (fun t ht hW => ⟨⟨v_13, g_12, rfl, trivial, zRet ht hP hD [0, 1, 2, 3] (by decide) rfl⟩, hS.F ht⟩) hS.2.2 dX5_least_151
                  · exact absurd c_17 (by decide)
                · have fc_16 : i_85.toInt < wn.toInt := zf_nle c_16 rfl rfl
                  refine lv_iload_n hx hb dX5_least_94 rfl (lv_at hl 5 rfl) ?_
                  refine lv_if_le (tgt := 135) hx hb dX5_least_95 (by decide) (fun c_18 => ?_) (fun c_18 => ?_)
                  · refine lv_iload hx hb dX5_least_135 (lv_at hl 3 rfl) ?_
                    refine lv_if_eq (tgt := 149) hx hb dX5_least_137 (by decide) (fun c_19 => ?_) (fun c_19 => ?_)
                    · refine lv_iload hx hb dX5_least_149 (lv_at hl 1 rfl) ?_
                      exact W.iret (v := v_13) hx hb hr (fun t ht hW => ⟨⟨v_13, g_12, rfl, trivial, zRet ht hP hD [0, 1, 2, 3] (by decide) rfl⟩, hS.F ht⟩) hS.2.2 dX5_least_151
                    · exact absurd c_19 (by decide)
                  · exact absurd c_18 (by decide)
            · exact absurd c_10 (by decide)
          · have fc_7 : x_6.toInt ≤ sec.toInt := zf_nlt c_7 rfl rfl
            refine lv_iconst (v := 1) hx hb dX5_least_35 (by decide) ?_
            refine lv_goto (tgt := 40) hx hb dX5_least_36 (by decide) ?_
            refine lv_istore (lv' := [(4, .int 1), (0, .ref w0), (1, .int 0), (2, .int d), (3, .int sec)]) hx hb dX5_least_40 hl (by decide) rfl (fun ls hl => ?_)
            refine lv_iload_n hx hb dX5_least_42 rfl (lv_at hl 2 rfl) ?_
            refine lv_bipush (v := 25) hx hb dX5_least_43 (by decide) ?_
            refine lv_imul hx hb dX5_least_45 ?_
            refine lv_topi (fun y_20 ey_20 => ?_)
            obtain rfl : y_20 = 0 := ey_20.trans (by decide)
            refine lv_iload_n hx hb dX5_least_46 rfl (lv_at hl 3 rfl) ?_
            refine lv_iadd hx hb dX5_least_47 ?_
            refine lv_topi (fun x_21 ex_21 => ?_)
            have qx_21 : x_21.toInt = 0 + d.toInt := by rw [ex_21]; exact zf_add (by decide) rfl (by omega) (by omega)
            refine lv_istore (lv' := [(5, .int x_21), (4, .int 1), (0, .ref w0), (1, .int 0), (2, .int d), (3, .int sec)]) hx hb dX5_least_48 hl (by decide) rfl (fun ls hl => ?_)
            refine lv_iload hx hb dX5_least_50 (lv_at hl 1 rfl) ?_
            refine lv_if_eq (tgt := 74) hx hb dX5_least_52 (by decide) (fun c_22 => ?_) (fun c_22 => ?_)
            · exact absurd c_22 (by decide)
            · refine lv_aload_n hx hb dX5_least_55 rfl (lv_at hl 2 rfl) ?_
              refine va_get (D := D) (ci := 5) (v := .ref wl) (C := RX5) (T := TX5) (N := 7) hx hb hts hi_X5_least_5 hown hK hP 0 rfl rfl 1 (by decide) (hts (.fieldLink RX5 15 "TheLiningsInIt$Ways" "knownLeast" "[I") (List.mem_of_getElem? (i := 2) rfl)) (fun _ h9 => h9) rfl dX5_least_56 ?_
              refine lv_iload hx hb dX5_least_59 (lv_at hl 0 rfl) ?_
              refine va_iald hx hb hK hP 1 0 rfl rfl (zf_in (by omega) (by omega)) dX5_least_61 ?_
              refine lv_topi (fun x_23 ex_23 => ?_)
              refine lv_iconst (v := (-1)) hx hb dX5_least_62 (by decide) ?_
              refine lv_icmp_eq (tgt := 74) hx hb dX5_least_63 (by decide) (fun c_24 => ?_) (fun c_24 => ?_)
              · have fc_24 : x_23.toInt = (-1) := zf_eq c_24 rfl (by decide)
                refine lv_aload_n hx hb dX5_least_74 rfl (lv_at hl 2 rfl) ?_
                refine lv_iload_n hx hb dX5_least_75 rfl (lv_at hl 3 rfl) ?_
                refine lv_iload_n hx hb dX5_least_76 rfl (lv_at hl 5 rfl) ?_
                refine zc_V (As := [.int 0, .int sec]) (rest := []) ⟨hx, hb, hml, hown, hts⟩ (c_W_leastAtOnce_0 l D cI cJ cZ cP cS po w0 wk wl wc wp (wn) (wh) (wg) fc (sec) hy0 hy1 hy2 hy3 hy4 hy5 hp_fc) (cwV 2 hts gX5_least_X5_leastAtOnce rfl rfl rfl ⟨rfl, dh_X5_leastAtOnce⟩ ⟨Nat.le_of_ble_eq_true rfl, Nat.le_of_ble_eq_true rfl⟩) hK hN (hZ.kept hS) hP (hP.sub [0, 2] rfl) (va_recv (q := (RX5, TX5, 7)) hK hP (ci := 5) (q0 := 0) rfl rfl) rfl hl.1 rfl (Nat.le_of_ble_eq_true rfl) dX5_least_77 ⟨Nat.le_of_ble_eq_true rfl, Nat.le_of_ble_eq_true rfl⟩ (fun r_25 hr_25 => ?_)
                refine lv_istore (lv' := [(6, .int r_25), (5, .int x_21), (4, .int 1), (0, .ref w0), (1, .int 0), (2, .int d), (3, .int sec)]) hx hb dX5_least_80 hl (by decide) rfl (fun ls hl => ?_)
                refine lv_iconst (v := 0) hx hb dX5_least_82 (by decide) ?_
                refine lv_istore (lv' := [(7, .int 0), (6, .int r_25), (5, .int x_21), (4, .int 1), (0, .ref w0), (1, .int 0), (2, .int d), (3, .int sec)]) hx hb dX5_least_83 hl (by decide) rfl (fun ls hl => ?_)
                obtain ⟨i_85, hi_85⟩ : ∃ i : Int32, i = 0 := ⟨_, rfl⟩
                replace hl : lv_has ls 9 [(7, .int i_85), (6, .int r_25), (5, .int x_21), (4, .int 1), (0, .ref w0), (1, .int 0), (2, .int d), (3, .int sec)] := by rw [hi_85]; exact lv_sub hl [0, 1, 2, 3, 4, 5, 6, 7] rfl
                have h1i_85 : i_85.toInt = 0 := by rw [hi_85]; decide
                obtain ⟨nfu, hni_85⟩ : ∃ nq9 : Nat, wn.toInt ≤ i_85.toInt + (nq9 : Int) := ⟨((wn.toInt : Int) - 0).toNat, by omega⟩
                have hloi_85 : 0 ≤ i_85.toInt := by omega
                obtain ⟨g_26, hg_26⟩ : ∃ g : Nat → Int32, g = fl := ⟨_, rfl⟩
                replace hP : va_P D vwCl [(w0, .inr (5, [.ref wk, .ref wl, .ref wc, .ref wp, .int wn, .int wh, .int wg])), (wl, .inl (cI, 125, .inl g_26)), (wc, .inl (cI, 3, .inl fc)), (wp, .inl (cP, 8, .inr (.inr (.inr (.inr fp)))))] H := by rw [hg_26]; exact hP
                replace hD : va_D (va_A [(w0, .inr (5, [.ref wk, .ref wl, .ref wc, .ref wp, .int wn, .int wh, .int wg])), (wl, .inl (cI, 125, .inl fl)), (wc, .inl (cI, 3, .inl fc)), (wp, .inl (cP, 8, .inr (.inr (.inr (.inr fp)))))] s.heap.size) [(w0, .inr (5, [.ref wk, .ref wl, .ref wc, .ref wp, .int wn, .int wh, .int wg])), (wl, .inl (cI, 125, .inl g_26)), (wc, .inl (cI, 3, .inl fc)), (wp, .inl (cP, 8, .inr (.inr (.inr (.inr fp)))))] := by rw [hg_26]; exact hD
                obtain ⟨v_27, hv_27⟩ : ∃ g : Int32, g = r_25 := ⟨_, rfl⟩
                replace hl : lv_has ls 9 [(7, .int i_85), (6, .int v_27), (5, .int x_21), (4, .int 1), (0, .ref w0), (1, .int 0), (2, .int d), (3, .int sec)] := by rw [hv_27]; exact hl
                clear h1i_85 hi_85 hg_26 hv_27
                skip
                revert hni_85
                revert hloi_85
                revert hl
                revert hS
                revert hD
                revert hP
                revert ls
                revert locs
                revert H
                revert g_26
                revert v_27
                revert i_85
                induction nfu with
                | zero =>
                  intro i_85 v_27 g_26 H locs ls hP hD hS hl hloi_85 hni_85
                  have hzi_85 : wn.toInt ≤ i_85.toInt := by omega
                  refine lv_iload hx hb dX5_least_85 (lv_at hl 0 rfl) ?_
                  refine lv_aload_n hx hb dX5_least_87 rfl (lv_at hl 4 rfl) ?_
                  refine va_get (D := D) (ci := 5) (v := .int wn) (C := RX5) (T := TX5) (N := 7) hx hb hts hi_X5_least_5 hown hK hP 0 rfl rfl 4 (by decide) (hts (.fieldLink RX5 27 "TheLiningsInIt$Ways" "count" "I") (List.mem_of_getElem? (i := 3) rfl)) (fun _ h9 => h9) rfl dX5_least_88 ?_
                  refine lv_icmp_ge (tgt := 135) hx hb dX5_least_91 (by decide) (fun c_28 => ?_) (fun c_28 => ?_)
                  · have fc_28 : wn.toInt ≤ i_85.toInt := zf_le c_28 rfl rfl
                    refine lv_iload hx hb dX5_least_135 (lv_at hl 3 rfl) ?_
                    refine lv_if_eq (tgt := 149) hx hb dX5_least_137 (by decide) (fun c_29 => ?_) (fun c_29 => ?_)
                    · exact absurd c_29 (by decide)
                    · refine lv_aload_n hx hb dX5_least_140 rfl (lv_at hl 4 rfl) ?_
                      refine va_get (D := D) (ci := 5) (v := .ref wl) (C := RX5) (T := TX5) (N := 7) hx hb hts hi_X5_least_5 hown hK hP 0 rfl rfl 1 (by decide) (hts (.fieldLink RX5 15 "TheLiningsInIt$Ways" "knownLeast" "[I") (List.mem_of_getElem? (i := 2) rfl)) (fun _ h9 => h9) rfl dX5_least_141 ?_
                      refine lv_iload hx hb dX5_least_144 (lv_at hl 2 rfl) ?_
                      refine lv_iload hx hb dX5_least_146 (lv_at hl 1 rfl) ?_
                      refine va_iast hx hb hK hP hD hS 1 0 rfl rfl (zf_in (by omega) (by omega)) dX5_least_148 (fun H locs hP hD hS => ?_)
                      obtain ⟨g_30, hg_30⟩ : ∃ g : Nat → Int32, g = upd g_26 x_21.toNatClampNeg v_27 := ⟨_, rfl⟩
                      rw [← hg_30] at hP hD
                      clear hg_30
                      have h9R := zRe (ws' := [(w0, .inr (5, [.ref wk, .ref wl, .ref wc, .ref wp, .int wn, .int wh, .int wg])), (wl, .inl (cI, 125, .inl g_30)), (wc, .inl (cI, 3, .inl fc)), (wp, .inl (cP, 8, .inr (.inr (.inr (.inr fp)))))]) hP hD rfl
                      clear hP hD
                      obtain ⟨hP, hD⟩ := h9R
                      refine lv_iload hx hb dX5_least_149 (lv_at hl 1 rfl) ?_
                      exact W.iret (v := v_27) hx hb hr (fun t ht hW => ⟨⟨v_27, g_30, rfl, trivial, zRet ht hP hD [0, 1, 2, 3] (by decide) rfl⟩, hS.F ht⟩) hS.2.2 dX5_least_151
                  · exfalso; have fc_28 : i_85.toInt < wn.toInt := zf_nle c_28 rfl rfl; omega
                | succ nfu ih =>
                  intro i_85 v_27 g_26 H locs ls hP hD hS hl hloi_85 hni_85
                  refine lv_iload hx hb dX5_least_85 (lv_at hl 0 rfl) ?_
                  refine lv_aload_n hx hb dX5_least_87 rfl (lv_at hl 4 rfl) ?_
                  refine va_get (D := D) (ci := 5) (v := .int wn) (C := RX5) (T := TX5) (N := 7) hx hb hts hi_X5_least_5 hown hK hP 0 rfl rfl 4 (by decide) (hts (.fieldLink RX5 27 "TheLiningsInIt$Ways" "count" "I") (List.mem_of_getElem? (i := 3) rfl)) (fun _ h9 => h9) rfl dX5_least_88 ?_
                  refine lv_icmp_ge (tgt := 135) hx hb dX5_least_91 (by decide) (fun c_31 => ?_) (fun c_31 => ?_)
                  · have fc_31 : wn.toInt ≤ i_85.toInt := zf_le c_31 rfl rfl
                    refine lv_iload hx hb dX5_least_135 (lv_at hl 3 rfl) ?_
                    refine lv_if_eq (tgt := 149) hx hb dX5_least_137 (by decide) (fun c_32 => ?_) (fun c_32 => ?_)
                    · exact absurd c_32 (by decide)
                    · refine lv_aload_n hx hb dX5_least_140 rfl (lv_at hl 4 rfl) ?_
                      refine va_get (D := D) (ci := 5) (v := .ref wl) (C := RX5) (T := TX5) (N := 7) hx hb hts hi_X5_least_5 hown hK hP 0 rfl rfl 1 (by decide) (hts (.fieldLink RX5 15 "TheLiningsInIt$Ways" "knownLeast" "[I") (List.mem_of_getElem? (i := 2) rfl)) (fun _ h9 => h9) rfl dX5_least_141 ?_
                      refine lv_iload hx hb dX5_least_144 (lv_at hl 2 rfl) ?_
                      refine lv_iload hx hb dX5_least_146 (lv_at hl 1 rfl) ?_
                      refine va_iast hx hb hK hP hD hS 1 0 rfl rfl (zf_in (by omega) (by omega)) dX5_least_148 (fun H locs hP hD hS => ?_)
                      obtain ⟨g_33, hg_33⟩ : ∃ g : Nat → Int32, g = upd g_26 x_21.toNatClampNeg v_27 := ⟨_, rfl⟩
                      rw [← hg_33] at hP hD
                      clear hg_33
                      have h9R := zRe (ws' := [(w0, .inr (5, [.ref wk, .ref wl, .ref wc, .ref wp, .int wn, .int wh, .int wg])), (wl, .inl (cI, 125, .inl g_33)), (wc, .inl (cI, 3, .inl fc)), (wp, .inl (cP, 8, .inr (.inr (.inr (.inr fp)))))]) hP hD rfl
                      clear hP hD
                      obtain ⟨hP, hD⟩ := h9R
                      refine lv_iload hx hb dX5_least_149 (lv_at hl 1 rfl) ?_
                      exact W.iret (v := v_27) hx hb hr (fun t ht hW => ⟨⟨v_27, g_33, rfl, trivial, zRet ht hP hD [0, 1, 2, 3] (by decide) rfl⟩, hS.F ht⟩) hS.2.2 dX5_least_151
                  · have fc_31 : i_85.toInt < wn.toInt := zf_nle c_31 rfl rfl
                    refine lv_iload_n hx hb dX5_least_94 rfl (lv_at hl 5 rfl) ?_
                    refine lv_if_le (tgt := 135) hx hb dX5_least_95 (by decide) (fun c_34 => ?_) (fun c_34 => ?_)
                    · refine lv_iload hx hb dX5_least_135 (lv_at hl 3 rfl) ?_
                      refine lv_if_eq (tgt := 149) hx hb dX5_least_137 (by decide) (fun c_35 => ?_) (fun c_35 => ?_)
                      · exact absurd c_35 (by decide)
                      · refine lv_aload_n hx hb dX5_least_140 rfl (lv_at hl 4 rfl) ?_
                        refine va_get (D := D) (ci := 5) (v := .ref wl) (C := RX5) (T := TX5) (N := 7) hx hb hts hi_X5_least_5 hown hK hP 0 rfl rfl 1 (by decide) (hts (.fieldLink RX5 15 "TheLiningsInIt$Ways" "knownLeast" "[I") (List.mem_of_getElem? (i := 2) rfl)) (fun _ h9 => h9) rfl dX5_least_141 ?_
                        refine lv_iload hx hb dX5_least_144 (lv_at hl 2 rfl) ?_
                        refine lv_iload hx hb dX5_least_146 (lv_at hl 1 rfl) ?_
                        refine va_iast hx hb hK hP hD hS 1 0 rfl rfl (zf_in (by omega) (by omega)) dX5_least_148 (fun H locs hP hD hS => ?_)
                        obtain ⟨g_36, hg_36⟩ : ∃ g : Nat → Int32, g = upd g_26 x_21.toNatClampNeg v_27 := ⟨_, rfl⟩
                        rw [← hg_36] at hP hD
                        clear hg_36
                        have h9R := zRe (ws' := [(w0, .inr (5, [.ref wk, .ref wl, .ref wc, .ref wp, .int wn, .int wh, .int wg])), (wl, .inl (cI, 125, .inl g_36)), (wc, .inl (cI, 3, .inl fc)), (wp, .inl (cP, 8, .inr (.inr (.inr (.inr fp)))))]) hP hD rfl
                        clear hP hD
                        obtain ⟨hP, hD⟩ := h9R
                        refine lv_iload hx hb dX5_least_149 (lv_at hl 1 rfl) ?_
                        exact W.iret (v := v_27) hx hb hr (fun t ht hW => ⟨⟨v_27, g_36, rfl, trivial, zRet ht hP hD [0, 1, 2, 3] (by decide) rfl⟩, hS.F ht⟩) hS.2.2 dX5_least_151
                    · exact absurd c_34 (by decide)
              · have fc_24 : x_23.toInt ≠ (-1) := zf_ne c_24 rfl (by decide)
                refine lv_aload_n hx hb dX5_least_66 rfl (lv_at hl 2 rfl) ?_
                refine va_get (D := D) (ci := 5) (v := .ref wl) (C := RX5) (T := TX5) (N := 7) hx hb hts hi_X5_least_5 hown hK hP 0 rfl rfl 1 (by decide) (hts (.fieldLink RX5 15 "TheLiningsInIt$Ways" "knownLeast" "[I") (List.mem_of_getElem? (i := 2) rfl)) (fun _ h9 => h9) rfl dX5_least_67 ?_
                refine lv_iload hx hb dX5_least_70 (lv_at hl 0 rfl) ?_
                refine va_iald hx hb hK hP 1 0 rfl rfl (zf_in (by omega) (by omega)) dX5_least_72 ?_
                refine lv_topi (fun x_37 ex_37 => ?_)
                exact W.iret (v := x_37) hx hb hr (fun t ht hW => ⟨⟨x_37, fl, rfl, trivial, zRet ht hP hD [0, 1, 2, 3] (by decide) rfl⟩, hS.F ht⟩) hS.2.2 dX5_least_73
        · exfalso; have fc_4 : 24 < d.toInt := zf_nle c_4 rfl (by decide); omega
theorem hi_X5_leastBy_5 : ∀ w ∈ u_ws RX5 TX5 7, w ∈ wsX5_leastBy := fun w h => (gl_X5_leastBy_X50 w h).1
theorem hi_X5_leastBy_2 : ∀ w ∈ u_ws RX2 TX2 3, w ∈ wsX5_leastBy := fun w h => (gl_X5_leastBy_X20 w h).1
set_option maxHeartbeats 4000000 in
set_option maxRecDepth 100000 in
theorem c_W_leastBy_1 (l : Launch) (D : va_G) (cI cJ cZ cP cS : ClassId) (po : zPool) (w0 wk wl wc wp : Nat) (wn wh wg : Int32) (fp : Nat → Option Nat) (fl fc : Nat → Int32) (d sec : Int32) (u0 : Nat) (ki a_ ta : Int32) (hu_u0 : zPu po u0 ki a_ ta) (hr_u0 : zPr ki a_ ta) (hy2 : 0 ≤ wn.toInt) (hy3 : wn.toInt ≤ 8) (hy4 : 0 ≤ wh.toInt) (hy5 : wh.toInt ≤ 9) (hy6 : 0 ≤ wg.toInt) (hy7 : wg.toInt ≤ 60) (hwp : zWP po fp) (hy9 : 0 ≤ d.toInt) (hy10 : d.toInt ≤ 24) (hp_fc : zRg fc (0) 99) (hpz : Nat) : Met l yX5_leastBy wsX5_leastBy ({ frames := 3, cells := 0, slots := 0, locals := 71 }) (va_Pc [.ref w0, .ref u0, .int 1, .int d, .int sec] (zW D (zKT cI cJ cZ cP cS) po [(w0, .inr (5, [.ref wk, .ref wl, .ref wc, .ref wp, .int wn, .int wh, .int wg])), (wl, .inl (cI, 125, .inl fl)), (wc, .inl (cI, 3, .inl fc)), (wp, .inl (cP, 8, .inr (.inr (.inr (.inr fp)))))] hpz)) (va_Qi (fun (r : Int32) (fl2 : (Nat → Int32)) => True) (zB D [(w0, .inr (5, [.ref wk, .ref wl, .ref wc, .ref wp, .int wn, .int wh, .int wg])), (wl, .inl (cI, 125, .inl fl)), (wc, .inl (cI, 3, .inl fc)), (wp, .inl (cP, 8, .inr (.inr (.inr (.inr fp)))))] hpz (fun (fl2 : Nat → Int32) => [(w0, .inr (5, [.ref wk, .ref wl, .ref wc, .ref wp, .int wn, .int wh, .int wg])), (wl, .inl (cI, 125, .inl fl2)), (wc, .inl (cI, 3, .inl fc)), (wp, .inl (cP, 8, .inr (.inr (.inr (.inr fp)))))])) (va_A [(w0, .inr (5, [.ref wk, .ref wl, .ref wc, .ref wp, .int wn, .int wh, .int wg])), (wl, .inl (cI, 125, .inl fl)), (wc, .inl (cI, 3, .inl fc)), (wp, .inl (cP, 8, .inr (.inr (.inr (.inr fp)))))] hpz)) 0 0 (va_A [(w0, .inr (5, [.ref wk, .ref wl, .ref wc, .ref wp, .int wn, .int wh, .int wg])), (wl, .inl (cI, 125, .inl fl)), (wc, .inl (cI, 3, .inl fc)), (wp, .inl (cP, 8, .inr (.inr (.inr (.inr fp)))))] hpz) := by
  refine Met.ofW (cc := cX5_leastBy) (maxL := 8) (ret := (some .int)) (by decide) rfl ?_
  intro p e s m args below meth c s₁ B hml hv
  obtain ⟨rfl, hsz, hP, hK, hD0, hN, hZ⟩ := hv
  have hx := B.exec
  have hb := B.bytes
  have hr := B.returns
  have hts := atoms_spec (ws := wsX5_leastBy) B.pre
  have hown : s.vm.findClass RX5 = some m.cls := findClass_of_methodNamed B.named
  have hlocks := B.notSynchronized
  subst hsz
  have hD := hD0.self (sz := s.heap.size)
  have hA := zA_of hD
  have hl := lv_entry ([.ref w0, .ref u0, .int 1, .int d, .int sec]) (n := 8) (Nat.le_of_ble_eq_true rfl)
  rw [lg_entry_eq]
  generalize (lg_sl ([.ref w0, .ref u0, .int 1, .int d, .int sec]) ++ List.replicate (8 - (lg_sl ([.ref w0, .ref u0, .int 1, .int d, .int sec])).length) Slot.unset).toArray = ls at hl ⊢
  replace hl : lv_has ls 8 [(0, .ref w0), (1, .ref u0), (2, .int 1), (3, .int d), (4, .int sec)] := hl
  refine zw_begin hP hD (fun H locs hP1 hS => ?_)
  clear hP
  have hP := hP1
  clear hP1
  obtain ⟨⟨p1_u0, p2_u0⟩, ⟨p3_u0, p4_u0⟩, p5_u0, p6_u0⟩ := id hr_u0
  refine lv_aload_n hx hb dX5_leastBy_0 rfl (lv_at hl 1 rfl) ?_
  refine lv_iload_n hx hb dX5_leastBy_1 rfl (lv_at hl 3 rfl) ?_
  refine lv_aload_n hx hb dX5_leastBy_2 rfl (lv_at hl 0 rfl) ?_
  refine va_get (D := D) (ci := 5) (v := .int wh) (C := RX5) (T := TX5) (N := 7) hx hb hts hi_X5_leastBy_5 hown hK hP 0 rfl rfl 5 (by decide) (hts (.fieldLink RX5 31 "TheLiningsInIt$Ways" "hurry" "I") (List.mem_of_getElem? (i := 1) rfl)) (fun _ h9 => h9) rfl dX5_leastBy_3 ?_
  refine zc_V (As := [.int d, .int wh]) (rest := []) ⟨hx, hb, hml, hown, hts⟩ (c_Pull_waysAt l D cI cJ cZ cP cS po (d) (wh) u0 (ki) (a_) (ta) hu_u0 ⟨by omega, by omega, by omega, by omega⟩ hy9 hy10 hy4 hy5) (cwV 2 hts gX5_leastBy_X2_waysAt rfl rfl rfl ⟨rfl, dh_X2_waysAt⟩ ⟨Nat.le_of_ble_eq_true rfl, Nat.le_of_ble_eq_true rfl⟩) hK hN (hZ.kept hS) hP zP_nil (va_recv (q := (RX2, TX2, 3)) hK (zPu_P (hZ.kept hS) hu_u0) (ci := 2) (q0 := 0) rfl rfl) rfl hl.1 rfl (Nat.le_of_ble_eq_true rfl) dX5_leastBy_6 ⟨Nat.le_of_ble_eq_true rfl, Nat.le_of_ble_eq_true rfl⟩ (fun r_1 hr_1 => ?_)
  obtain ⟨g_2, g_3⟩ := hr_1
  refine lv_istore (lv' := [(5, .int r_1), (0, .ref w0), (1, .ref u0), (2, .int 1), (3, .int d), (4, .int sec)]) hx hb dX5_leastBy_9 hl (by decide) rfl (fun ls hl => ?_)
  refine lv_iload hx hb dX5_leastBy_11 (lv_at hl 5 rfl) ?_
  refine lv_aload_n hx hb dX5_leastBy_13 rfl (lv_at hl 2 rfl) ?_
  refine va_get (D := D) (ci := 2) (v := .int ta) (C := RX2) (T := TX2) (N := 3) hx hb hts hi_X5_leastBy_2 hown hK (zPu_P (hZ.kept hS) hu_u0) 0 rfl rfl 2 (by decide) (hts (.fieldLink RX5 49 "TheLiningsInIt$Pull" "takes" "I") (List.mem_of_getElem? (i := 2) rfl)) (fun _ h9 => h9) rfl dX5_leastBy_14 ?_
  refine lv_isub hx hb dX5_leastBy_17 ?_
  refine lv_topi (fun x_4 ex_4 => ?_)
  refine lv_istore (lv' := [(6, .int x_4), (5, .int r_1), (0, .ref w0), (1, .ref u0), (2, .int 1), (3, .int d), (4, .int sec)]) hx hb dX5_leastBy_18 hl (by decide) rfl (fun ls hl => ?_)
  refine lv_aload_n hx hb dX5_leastBy_20 rfl (lv_at hl 3 rfl) ?_
  refine va_get (D := D) (ci := 2) (v := .int ki) (C := RX2) (T := TX2) (N := 3) hx hb hts hi_X5_leastBy_2 hown hK (zPu_P (hZ.kept hS) hu_u0) 0 rfl rfl 0 (by decide) (hts (.fieldLink RX5 46 "TheLiningsInIt$Pull" "kind" "I") (List.mem_of_getElem? (i := 3) rfl)) (fun _ h9 => h9) rfl dX5_leastBy_21 ?_
  refine lv_iconst (v := 5) hx hb dX5_leastBy_24 (by decide) ?_
  refine lv_icmp_ne (tgt := 43) hx hb dX5_leastBy_25 (by decide) (fun c_5 => ?_) (fun c_5 => ?_)
  · have fc_5 : ki.toInt ≠ 5 := zf_ne c_5 rfl (by decide)
    refine lv_iconst (v := 0) hx hb dX5_leastBy_43 (by decide) ?_
    refine lv_istore (lv' := [(7, .int 0), (6, .int x_4), (5, .int r_1), (0, .ref w0), (1, .ref u0), (2, .int 1), (3, .int d), (4, .int sec)]) hx hb dX5_leastBy_44 hl (by decide) rfl (fun ls hl => ?_)
    refine lv_iload hx hb dX5_leastBy_46 (lv_at hl 2 rfl) ?_
    refine lv_if_le (tgt := 73) hx hb dX5_leastBy_48 (by decide) (fun c_6 => ?_) (fun c_6 => ?_)
    · have fc_6 : r_1.toInt ≤ 0 := zf_le c_6 rfl (by decide)
      refine lv_iload hx hb dX5_leastBy_73 (lv_at hl 2 rfl) ?_
      refine lv_bipush (v := 12) hx hb dX5_leastBy_75 (by decide) ?_
      refine lv_icmp_ge (tgt := 109) hx hb dX5_leastBy_77 (by decide) (fun c_7 => ?_) (fun c_7 => ?_)
      · exfalso; have fc_7 : 12 ≤ r_1.toInt := zf_le c_7 (by decide) rfl; omega
      · have fc_7 : r_1.toInt < 12 := zf_nle c_7 (by decide) rfl
        refine lv_iload hx hb dX5_leastBy_80 (lv_at hl 0 rfl) ?_
        refine lv_bipush (v := 12) hx hb dX5_leastBy_82 (by decide) ?_
        refine lv_iload hx hb dX5_leastBy_84 (lv_at hl 2 rfl) ?_
        refine lv_isub hx hb dX5_leastBy_86 ?_
        refine lv_topi (fun x_8 ex_8 => ?_)
        have qx_8 : x_8.toInt = 12 - r_1.toInt := by rw [ex_8]; exact zf_sub (by decide) rfl (by omega) (by omega)
        refine lv_aload_n hx hb dX5_leastBy_87 rfl (lv_at hl 3 rfl) ?_
        refine lv_iload_n hx hb dX5_leastBy_88 rfl (lv_at hl 5 rfl) ?_
        refine lv_iconst (v := 1) hx hb dX5_leastBy_89 (by decide) ?_
        refine lv_isub hx hb dX5_leastBy_90 ?_
        refine lv_topi (fun y_9 ey_9 => ?_)
        obtain rfl : y_9 = 0 := ey_9.trans (by decide)
        refine lv_aload_n hx hb dX5_leastBy_91 rfl (lv_at hl 4 rfl) ?_
        refine lv_iload_n hx hb dX5_leastBy_92 rfl (lv_at hl 6 rfl) ?_
        refine lv_aload_n hx hb dX5_leastBy_93 rfl (lv_at hl 3 rfl) ?_
        refine va_get (D := D) (ci := 5) (v := .int wh) (C := RX5) (T := TX5) (N := 7) hx hb hts hi_X5_leastBy_5 hown hK hP 0 rfl rfl 5 (by decide) (hts (.fieldLink RX5 31 "TheLiningsInIt$Ways" "hurry" "I") (List.mem_of_getElem? (i := 1) rfl)) (fun _ h9 => h9) rfl dX5_leastBy_94 ?_
        refine zc_V (As := [.int d, .int wh]) (rest := [.int 0, .ref w0, .int x_8, .int 0]) ⟨hx, hb, hml, hown, hts⟩ (c_Pull_deeper l D cI cJ cZ cP cS po (d) (wh) u0 (ki) (a_) (ta) hu_u0 ⟨by omega, by omega, by omega, by omega⟩ hy9 hy10 hy4 hy5) (cwV 2 hts gX5_leastBy_X2_deeper rfl rfl rfl ⟨rfl, dh_X2_deeper⟩ ⟨Nat.le_of_ble_eq_true rfl, Nat.le_of_ble_eq_true rfl⟩) hK hN (hZ.kept hS) hP zP_nil (va_recv (q := (RX2, TX2, 3)) hK (zPu_P (hZ.kept hS) hu_u0) (ci := 2) (q0 := 0) rfl rfl) rfl hl.1 rfl (Nat.le_of_ble_eq_true rfl) dX5_leastBy_97 ⟨Nat.le_of_ble_eq_true rfl, Nat.le_of_ble_eq_true rfl⟩ (fun r_10 hr_10 => ?_)
        obtain ⟨g_11, g_12⟩ := hr_10
        refine lv_iload hx hb dX5_leastBy_100 (lv_at hl 1 rfl) ?_
        skip
        refine zw_V (As := [.int 0, .int r_10, .int x_4]) (rest := [.int x_8, .int 0]) (wr := []) ⟨hx, hb, hml, hown, hts⟩ (c_W_least_0 l D cI cJ cZ cP cS po w0 wk wl wc wp (wn) (wh) (wg) fp fl fc (r_10) (x_4) hy2 hy3 hy4 hy5 hy6 hy7 hwp (by omega) (by omega) hp_fc H.size) (cwV 3 hts gX5_leastBy_X5_least rfl rfl rfl ⟨rfl, dh_X5_least⟩ ⟨Nat.le_of_ble_eq_true rfl, Nat.le_of_ble_eq_true rfl⟩) hK hN (hZ.kept hS) hP hD hS hA [0, 1, 2, 3] [] rfl rfl (by decide) (by decide) (by decide) (va_recv (q := (RX5, TX5, 7)) hK hP (ci := 5) (q0 := 0) rfl rfl) rfl hl.1 rfl (Nat.le_of_ble_eq_true rfl) dX5_leastBy_102 ⟨Nat.le_of_ble_eq_true rfl, Nat.le_of_ble_eq_true rfl⟩ (fun r_13 u_14 H locs hr_13 hP hD hS => ?_)
        obtain ⟨q_15, rfl⟩ : ∃ z, z = u_14 := ⟨_, rfl⟩
        have h9R := zRe (ws' := [(w0, .inr (5, [.ref wk, .ref wl, .ref wc, .ref wp, .int wn, .int wh, .int wg])), (wl, .inl (cI, 125, .inl q_15)), (wc, .inl (cI, 3, .inl fc)), (wp, .inl (cP, 8, .inr (.inr (.inr (.inr fp)))))]) hP hD rfl
        clear hP hD
        obtain ⟨hP, hD⟩ := h9R
        refine lv_imul hx hb dX5_leastBy_105 ?_
        refine lv_topi (fun x_16 ex_16 => ?_)
        refine lv_iadd hx hb dX5_leastBy_106 ?_
        refine lv_topi (fun x_17 ex_17 => ?_)
        have rbx_17 := zf_rng x_16
        have qx_17 : x_17.toInt = 0 + x_16.toInt := by rw [ex_17]; exact zf_add (by decide) rfl (by omega) (by omega)
        refine lv_istore (lv' := [(7, .int x_17), (6, .int x_4), (5, .int r_1), (0, .ref w0), (1, .ref u0), (2, .int 1), (3, .int d), (4, .int sec)]) hx hb dX5_leastBy_107 hl (by decide) rfl (fun ls hl => ?_)
        refine lv_iload hx hb dX5_leastBy_109 (lv_at hl 0 rfl) ?_
        exact W.iret (v := x_17) hx hb hr (fun t ht hW => ⟨⟨x_17, q_15, rfl, trivial, zRet ht hP hD [0, 1, 2, 3] (by decide) rfl⟩, hS.F ht⟩) hS.2.2 dX5_leastBy_111
    · have fc_6 : 0 < r_1.toInt := zf_nle c_6 rfl (by decide)
      refine lv_iload hx hb dX5_leastBy_51 (lv_at hl 0 rfl) ?_
      refine lv_iload hx hb dX5_leastBy_53 (lv_at hl 2 rfl) ?_
      refine lv_aload_n hx hb dX5_leastBy_55 rfl (lv_at hl 3 rfl) ?_
      refine lv_iload_n hx hb dX5_leastBy_56 rfl (lv_at hl 5 rfl) ?_
      refine lv_iconst (v := 1) hx hb dX5_leastBy_57 (by decide) ?_
      refine lv_isub hx hb dX5_leastBy_58 ?_
      refine lv_topi (fun y_18 ey_18 => ?_)
      obtain rfl : y_18 = 0 := ey_18.trans (by decide)
      refine lv_aload_n hx hb dX5_leastBy_59 rfl (lv_at hl 4 rfl) ?_
      refine lv_iload_n hx hb dX5_leastBy_60 rfl (lv_at hl 6 rfl) ?_
      refine zc_V (As := [.int d]) (rest := [.int 0, .ref w0, .int r_1, .int 0]) ⟨hx, hb, hml, hown, hts⟩ (c_Pull_shallower l D cI cJ cZ cP cS po (d) u0 (ki) (a_) (ta) hu_u0 ⟨by omega, by omega, by omega, by omega⟩ hy9 hy10) (cwV 1 hts gX5_leastBy_X2_shallower rfl rfl rfl ⟨rfl, dh_X2_shallower⟩ ⟨Nat.le_of_ble_eq_true rfl, Nat.le_of_ble_eq_true rfl⟩) hK hN (hZ.kept hS) hP zP_nil (va_recv (q := (RX2, TX2, 3)) hK (zPu_P (hZ.kept hS) hu_u0) (ci := 2) (q0 := 0) rfl rfl) rfl hl.1 rfl (Nat.le_of_ble_eq_true rfl) dX5_leastBy_61 ⟨Nat.le_of_ble_eq_true rfl, Nat.le_of_ble_eq_true rfl⟩ (fun r_19 hr_19 => ?_)
      obtain ⟨g_20, g_21⟩ := hr_19
      refine lv_iload hx hb dX5_leastBy_64 (lv_at hl 1 rfl) ?_
      skip
      refine zw_V (As := [.int 0, .int r_19, .int x_4]) (rest := [.int r_1, .int 0]) (wr := []) ⟨hx, hb, hml, hown, hts⟩ (c_W_least_0 l D cI cJ cZ cP cS po w0 wk wl wc wp (wn) (wh) (wg) fp fl fc (r_19) (x_4) hy2 hy3 hy4 hy5 hy6 hy7 hwp (by omega) (by omega) hp_fc H.size) (cwV 3 hts gX5_leastBy_X5_least rfl rfl rfl ⟨rfl, dh_X5_least⟩ ⟨Nat.le_of_ble_eq_true rfl, Nat.le_of_ble_eq_true rfl⟩) hK hN (hZ.kept hS) hP hD hS hA [0, 1, 2, 3] [] rfl rfl (by decide) (by decide) (by decide) (va_recv (q := (RX5, TX5, 7)) hK hP (ci := 5) (q0 := 0) rfl rfl) rfl hl.1 rfl (Nat.le_of_ble_eq_true rfl) dX5_leastBy_66 ⟨Nat.le_of_ble_eq_true rfl, Nat.le_of_ble_eq_true rfl⟩ (fun r_22 u_23 H locs hr_22 hP hD hS => ?_)
      obtain ⟨q_24, rfl⟩ : ∃ z, z = u_23 := ⟨_, rfl⟩
      have h9R := zRe (ws' := [(w0, .inr (5, [.ref wk, .ref wl, .ref wc, .ref wp, .int wn, .int wh, .int wg])), (wl, .inl (cI, 125, .inl q_24)), (wc, .inl (cI, 3, .inl fc)), (wp, .inl (cP, 8, .inr (.inr (.inr (.inr fp)))))]) hP hD rfl
      clear hP hD
      obtain ⟨hP, hD⟩ := h9R
      refine lv_imul hx hb dX5_leastBy_69 ?_
      refine lv_topi (fun x_25 ex_25 => ?_)
      refine lv_iadd hx hb dX5_leastBy_70 ?_
      refine lv_topi (fun x_26 ex_26 => ?_)
      have rbx_26 := zf_rng x_25
      have qx_26 : x_26.toInt = 0 + x_25.toInt := by rw [ex_26]; exact zf_add (by decide) rfl (by omega) (by omega)
      refine lv_istore (lv' := [(7, .int x_26), (6, .int x_4), (5, .int r_1), (0, .ref w0), (1, .ref u0), (2, .int 1), (3, .int d), (4, .int sec)]) hx hb dX5_leastBy_71 hl (by decide) rfl (fun ls hl => ?_)
      refine lv_iload hx hb dX5_leastBy_73 (lv_at hl 2 rfl) ?_
      refine lv_bipush (v := 12) hx hb dX5_leastBy_75 (by decide) ?_
      refine lv_icmp_ge (tgt := 109) hx hb dX5_leastBy_77 (by decide) (fun c_27 => ?_) (fun c_27 => ?_)
      · have fc_27 : 12 ≤ r_1.toInt := zf_le c_27 (by decide) rfl
        refine lv_iload hx hb dX5_leastBy_109 (lv_at hl 0 rfl) ?_
        exact W.iret (v := x_26) hx hb hr (fun t ht hW => ⟨⟨x_26, q_24, rfl, trivial, zRet ht hP hD [0, 1, 2, 3] (by decide) rfl⟩, hS.F ht⟩) hS.2.2 dX5_leastBy_111
      · have fc_27 : r_1.toInt < 12 := zf_nle c_27 (by decide) rfl
        refine lv_iload hx hb dX5_leastBy_80 (lv_at hl 0 rfl) ?_
        refine lv_bipush (v := 12) hx hb dX5_leastBy_82 (by decide) ?_
        refine lv_iload hx hb dX5_leastBy_84 (lv_at hl 2 rfl) ?_
        refine lv_isub hx hb dX5_leastBy_86 ?_
        refine lv_topi (fun x_28 ex_28 => ?_)
        have qx_28 : x_28.toInt = 12 - r_1.toInt := by rw [ex_28]; exact zf_sub (by decide) rfl (by omega) (by omega)
        refine lv_aload_n hx hb dX5_leastBy_87 rfl (lv_at hl 3 rfl) ?_
        refine lv_iload_n hx hb dX5_leastBy_88 rfl (lv_at hl 5 rfl) ?_
        refine lv_iconst (v := 1) hx hb dX5_leastBy_89 (by decide) ?_
        refine lv_isub hx hb dX5_leastBy_90 ?_
        refine lv_topi (fun y_29 ey_29 => ?_)
        obtain rfl : y_29 = 0 := ey_29.trans (by decide)
        refine lv_aload_n hx hb dX5_leastBy_91 rfl (lv_at hl 4 rfl) ?_
        refine lv_iload_n hx hb dX5_leastBy_92 rfl (lv_at hl 6 rfl) ?_
        refine lv_aload_n hx hb dX5_leastBy_93 rfl (lv_at hl 3 rfl) ?_
        refine va_get (D := D) (ci := 5) (v := .int wh) (C := RX5) (T := TX5) (N := 7) hx hb hts hi_X5_leastBy_5 hown hK hP 0 rfl rfl 5 (by decide) (hts (.fieldLink RX5 31 "TheLiningsInIt$Ways" "hurry" "I") (List.mem_of_getElem? (i := 1) rfl)) (fun _ h9 => h9) rfl dX5_leastBy_94 ?_
        refine zc_V (As := [.int d, .int wh]) (rest := [.int 0, .ref w0, .int x_28, .int x_26]) ⟨hx, hb, hml, hown, hts⟩ (c_Pull_deeper l D cI cJ cZ cP cS po (d) (wh) u0 (ki) (a_) (ta) hu_u0 ⟨by omega, by omega, by omega, by omega⟩ hy9 hy10 hy4 hy5) (cwV 2 hts gX5_leastBy_X2_deeper rfl rfl rfl ⟨rfl, dh_X2_deeper⟩ ⟨Nat.le_of_ble_eq_true rfl, Nat.le_of_ble_eq_true rfl⟩) hK hN (hZ.kept hS) hP zP_nil (va_recv (q := (RX2, TX2, 3)) hK (zPu_P (hZ.kept hS) hu_u0) (ci := 2) (q0 := 0) rfl rfl) rfl hl.1 rfl (Nat.le_of_ble_eq_true rfl) dX5_leastBy_97 ⟨Nat.le_of_ble_eq_true rfl, Nat.le_of_ble_eq_true rfl⟩ (fun r_30 hr_30 => ?_)
        obtain ⟨g_31, g_32⟩ := hr_30
        refine lv_iload hx hb dX5_leastBy_100 (lv_at hl 1 rfl) ?_
        skip
        refine zw_V (As := [.int 0, .int r_30, .int x_4]) (rest := [.int x_28, .int x_26]) (wr := []) ⟨hx, hb, hml, hown, hts⟩ (c_W_least_0 l D cI cJ cZ cP cS po w0 wk wl wc wp (wn) (wh) (wg) fp q_24 fc (r_30) (x_4) hy2 hy3 hy4 hy5 hy6 hy7 hwp (by omega) (by omega) hp_fc H.size) (cwV 3 hts gX5_leastBy_X5_least rfl rfl rfl ⟨rfl, dh_X5_least⟩ ⟨Nat.le_of_ble_eq_true rfl, Nat.le_of_ble_eq_true rfl⟩) hK hN (hZ.kept hS) hP hD hS hA [0, 1, 2, 3] [] rfl rfl (by decide) (by decide) (by decide) (va_recv (q := (RX5, TX5, 7)) hK hP (ci := 5) (q0 := 0) rfl rfl) rfl hl.1 rfl (Nat.le_of_ble_eq_true rfl) dX5_leastBy_102 ⟨Nat.le_of_ble_eq_true rfl, Nat.le_of_ble_eq_true rfl⟩ (fun r_33 u_34 H locs hr_33 hP hD hS => ?_)
        obtain ⟨q_35, rfl⟩ : ∃ z, z = u_34 := ⟨_, rfl⟩
        have h9R := zRe (ws' := [(w0, .inr (5, [.ref wk, .ref wl, .ref wc, .ref wp, .int wn, .int wh, .int wg])), (wl, .inl (cI, 125, .inl q_35)), (wc, .inl (cI, 3, .inl fc)), (wp, .inl (cP, 8, .inr (.inr (.inr (.inr fp)))))]) hP hD rfl
        clear hP hD
        obtain ⟨hP, hD⟩ := h9R
        refine lv_imul hx hb dX5_leastBy_105 ?_
        refine lv_topi (fun x_36 ex_36 => ?_)
        refine lv_iadd hx hb dX5_leastBy_106 ?_
        refine lv_topi (fun x_37 ex_37 => ?_)
        refine lv_istore (lv' := [(7, .int x_37), (6, .int x_4), (5, .int r_1), (0, .ref w0), (1, .ref u0), (2, .int 1), (3, .int d), (4, .int sec)]) hx hb dX5_leastBy_107 hl (by decide) rfl (fun ls hl => ?_)
        refine lv_iload hx hb dX5_leastBy_109 (lv_at hl 0 rfl) ?_
        exact W.iret (v := x_37) hx hb hr (fun t ht hW => ⟨⟨x_37, q_35, rfl, trivial, zRet ht hP hD [0, 1, 2, 3] (by decide) rfl⟩, hS.F ht⟩) hS.2.2 dX5_leastBy_111
  · have fc_5 : ki.toInt = 5 := zf_eq c_5 rfl (by decide)
    obtain ⟨t_38, zt_38, yt_38⟩ := hZ.1.1
    refine va_gets hx hb zt_38 hS hown (hts (.fieldLink RX5 79 "TheLiningsInIt$Ways" "POWERS" "[I") (List.mem_of_getElem? (i := 4) rfl)) (fun _ h9 => h9) dX5_leastBy_28 ?_
    refine lv_iload_n hx hb dX5_leastBy_31 rfl (lv_at hl 4 rfl) ?_
    refine va_ti hx hb yt_38 hS (zf_in (by decide) (by decide)) (v := .int 12) (by decide) dX5_leastBy_32 ?_
    refine lv_aload_n hx hb dX5_leastBy_33 rfl (lv_at hl 2 rfl) ?_
    refine va_get (D := D) (ci := 5) (v := .ref wc) (C := RX5) (T := TX5) (N := 7) hx hb hts hi_X5_leastBy_5 hown hK hP 0 rfl rfl 2 (by decide) (hts (.fieldLink RX5 18 "TheLiningsInIt$Ways" "costs" "[I") (List.mem_of_getElem? (i := 5) rfl)) (fun _ h9 => h9) rfl dX5_leastBy_34 ?_
    refine lv_iconst (v := 0) hx hb dX5_leastBy_37 (by decide) ?_
    refine va_iald hx hb hK hP 2 0 rfl rfl (zf_in (by decide) (by decide)) dX5_leastBy_38 ?_
    refine lv_topi (fun x_39 ex_39 => ?_)
    have bx_39 : 0 ≤ x_39.toInt ∧ x_39.toInt ≤ 99 := by rw [ex_39]; exact hp_fc _
    refine lv_imul hx hb dX5_leastBy_39 ?_
    refine lv_topi (fun x_40 ex_40 => ?_)
    have qx_40 : x_40.toInt = 12 * x_39.toInt := by rw [ex_40]; exact zf_mul (by decide) rfl (by omega) (by omega)
    refine lv_goto (tgt := 44) hx hb dX5_leastBy_40 (by decide) ?_
    refine lv_istore (lv' := [(7, .int x_40), (6, .int x_4), (5, .int r_1), (0, .ref w0), (1, .ref u0), (2, .int 1), (3, .int d), (4, .int sec)]) hx hb dX5_leastBy_44 hl (by decide) rfl (fun ls hl => ?_)
    refine lv_iload hx hb dX5_leastBy_46 (lv_at hl 2 rfl) ?_
    refine lv_if_le (tgt := 73) hx hb dX5_leastBy_48 (by decide) (fun c_41 => ?_) (fun c_41 => ?_)
    · have fc_41 : r_1.toInt ≤ 0 := zf_le c_41 rfl (by decide)
      refine lv_iload hx hb dX5_leastBy_73 (lv_at hl 2 rfl) ?_
      refine lv_bipush (v := 12) hx hb dX5_leastBy_75 (by decide) ?_
      refine lv_icmp_ge (tgt := 109) hx hb dX5_leastBy_77 (by decide) (fun c_42 => ?_) (fun c_42 => ?_)
      · exfalso; have fc_42 : 12 ≤ r_1.toInt := zf_le c_42 (by decide) rfl; omega
      · have fc_42 : r_1.toInt < 12 := zf_nle c_42 (by decide) rfl
        refine lv_iload hx hb dX5_leastBy_80 (lv_at hl 0 rfl) ?_
        refine lv_bipush (v := 12) hx hb dX5_leastBy_82 (by decide) ?_
        refine lv_iload hx hb dX5_leastBy_84 (lv_at hl 2 rfl) ?_
        refine lv_isub hx hb dX5_leastBy_86 ?_
        refine lv_topi (fun x_43 ex_43 => ?_)
        have qx_43 : x_43.toInt = 12 - r_1.toInt := by rw [ex_43]; exact zf_sub (by decide) rfl (by omega) (by omega)
        refine lv_aload_n hx hb dX5_leastBy_87 rfl (lv_at hl 3 rfl) ?_
        refine lv_iload_n hx hb dX5_leastBy_88 rfl (lv_at hl 5 rfl) ?_
        refine lv_iconst (v := 1) hx hb dX5_leastBy_89 (by decide) ?_
        refine lv_isub hx hb dX5_leastBy_90 ?_
        refine lv_topi (fun y_44 ey_44 => ?_)
        obtain rfl : y_44 = 0 := ey_44.trans (by decide)
        refine lv_aload_n hx hb dX5_leastBy_91 rfl (lv_at hl 4 rfl) ?_
        refine lv_iload_n hx hb dX5_leastBy_92 rfl (lv_at hl 6 rfl) ?_
        refine lv_aload_n hx hb dX5_leastBy_93 rfl (lv_at hl 3 rfl) ?_
        refine va_get (D := D) (ci := 5) (v := .int wh) (C := RX5) (T := TX5) (N := 7) hx hb hts hi_X5_leastBy_5 hown hK hP 0 rfl rfl 5 (by decide) (hts (.fieldLink RX5 31 "TheLiningsInIt$Ways" "hurry" "I") (List.mem_of_getElem? (i := 1) rfl)) (fun _ h9 => h9) rfl dX5_leastBy_94 ?_
        refine zc_V (As := [.int d, .int wh]) (rest := [.int 0, .ref w0, .int x_43, .int x_40]) ⟨hx, hb, hml, hown, hts⟩ (c_Pull_deeper l D cI cJ cZ cP cS po (d) (wh) u0 (ki) (a_) (ta) hu_u0 ⟨by omega, by omega, by omega, by omega⟩ hy9 hy10 hy4 hy5) (cwV 2 hts gX5_leastBy_X2_deeper rfl rfl rfl ⟨rfl, dh_X2_deeper⟩ ⟨Nat.le_of_ble_eq_true rfl, Nat.le_of_ble_eq_true rfl⟩) hK hN (hZ.kept hS) hP zP_nil (va_recv (q := (RX2, TX2, 3)) hK (zPu_P (hZ.kept hS) hu_u0) (ci := 2) (q0 := 0) rfl rfl) rfl hl.1 rfl (Nat.le_of_ble_eq_true rfl) dX5_leastBy_97 ⟨Nat.le_of_ble_eq_true rfl, Nat.le_of_ble_eq_true rfl⟩ (fun r_45 hr_45 => ?_)
        obtain ⟨g_46, g_47⟩ := hr_45
        refine lv_iload hx hb dX5_leastBy_100 (lv_at hl 1 rfl) ?_
        skip
        refine zw_V (As := [.int 0, .int r_45, .int x_4]) (rest := [.int x_43, .int x_40]) (wr := []) ⟨hx, hb, hml, hown, hts⟩ (c_W_least_0 l D cI cJ cZ cP cS po w0 wk wl wc wp (wn) (wh) (wg) fp fl fc (r_45) (x_4) hy2 hy3 hy4 hy5 hy6 hy7 hwp (by omega) (by omega) hp_fc H.size) (cwV 3 hts gX5_leastBy_X5_least rfl rfl rfl ⟨rfl, dh_X5_least⟩ ⟨Nat.le_of_ble_eq_true rfl, Nat.le_of_ble_eq_true rfl⟩) hK hN (hZ.kept hS) hP hD hS hA [0, 1, 2, 3] [] rfl rfl (by decide) (by decide) (by decide) (va_recv (q := (RX5, TX5, 7)) hK hP (ci := 5) (q0 := 0) rfl rfl) rfl hl.1 rfl (Nat.le_of_ble_eq_true rfl) dX5_leastBy_102 ⟨Nat.le_of_ble_eq_true rfl, Nat.le_of_ble_eq_true rfl⟩ (fun r_48 u_49 H locs hr_48 hP hD hS => ?_)
        obtain ⟨q_50, rfl⟩ : ∃ z, z = u_49 := ⟨_, rfl⟩
        have h9R := zRe (ws' := [(w0, .inr (5, [.ref wk, .ref wl, .ref wc, .ref wp, .int wn, .int wh, .int wg])), (wl, .inl (cI, 125, .inl q_50)), (wc, .inl (cI, 3, .inl fc)), (wp, .inl (cP, 8, .inr (.inr (.inr (.inr fp)))))]) hP hD rfl
        clear hP hD
        obtain ⟨hP, hD⟩ := h9R
        refine lv_imul hx hb dX5_leastBy_105 ?_
        refine lv_topi (fun x_51 ex_51 => ?_)
        refine lv_iadd hx hb dX5_leastBy_106 ?_
        refine lv_topi (fun x_52 ex_52 => ?_)
        refine lv_istore (lv' := [(7, .int x_52), (6, .int x_4), (5, .int r_1), (0, .ref w0), (1, .ref u0), (2, .int 1), (3, .int d), (4, .int sec)]) hx hb dX5_leastBy_107 hl (by decide) rfl (fun ls hl => ?_)
        refine lv_iload hx hb dX5_leastBy_109 (lv_at hl 0 rfl) ?_
        exact W.iret (v := x_52) hx hb hr (fun t ht hW => ⟨⟨x_52, q_50, rfl, trivial, zRet ht hP hD [0, 1, 2, 3] (by decide) rfl⟩, hS.F ht⟩) hS.2.2 dX5_leastBy_111
    · have fc_41 : 0 < r_1.toInt := zf_nle c_41 rfl (by decide)
      refine lv_iload hx hb dX5_leastBy_51 (lv_at hl 0 rfl) ?_
      refine lv_iload hx hb dX5_leastBy_53 (lv_at hl 2 rfl) ?_
      refine lv_aload_n hx hb dX5_leastBy_55 rfl (lv_at hl 3 rfl) ?_
      refine lv_iload_n hx hb dX5_leastBy_56 rfl (lv_at hl 5 rfl) ?_
      refine lv_iconst (v := 1) hx hb dX5_leastBy_57 (by decide) ?_
      refine lv_isub hx hb dX5_leastBy_58 ?_
      refine lv_topi (fun y_53 ey_53 => ?_)
      obtain rfl : y_53 = 0 := ey_53.trans (by decide)
      refine lv_aload_n hx hb dX5_leastBy_59 rfl (lv_at hl 4 rfl) ?_
      refine lv_iload_n hx hb dX5_leastBy_60 rfl (lv_at hl 6 rfl) ?_
      refine zc_V (As := [.int d]) (rest := [.int 0, .ref w0, .int r_1, .int x_40]) ⟨hx, hb, hml, hown, hts⟩ (c_Pull_shallower l D cI cJ cZ cP cS po (d) u0 (ki) (a_) (ta) hu_u0 ⟨by omega, by omega, by omega, by omega⟩ hy9 hy10) (cwV 1 hts gX5_leastBy_X2_shallower rfl rfl rfl ⟨rfl, dh_X2_shallower⟩ ⟨Nat.le_of_ble_eq_true rfl, Nat.le_of_ble_eq_true rfl⟩) hK hN (hZ.kept hS) hP zP_nil (va_recv (q := (RX2, TX2, 3)) hK (zPu_P (hZ.kept hS) hu_u0) (ci := 2) (q0 := 0) rfl rfl) rfl hl.1 rfl (Nat.le_of_ble_eq_true rfl) dX5_leastBy_61 ⟨Nat.le_of_ble_eq_true rfl, Nat.le_of_ble_eq_true rfl⟩ (fun r_54 hr_54 => ?_)
      obtain ⟨g_55, g_56⟩ := hr_54
      refine lv_iload hx hb dX5_leastBy_64 (lv_at hl 1 rfl) ?_
      skip
      refine zw_V (As := [.int 0, .int r_54, .int x_4]) (rest := [.int r_1, .int x_40]) (wr := []) ⟨hx, hb, hml, hown, hts⟩ (c_W_least_0 l D cI cJ cZ cP cS po w0 wk wl wc wp (wn) (wh) (wg) fp fl fc (r_54) (x_4) hy2 hy3 hy4 hy5 hy6 hy7 hwp (by omega) (by omega) hp_fc H.size) (cwV 3 hts gX5_leastBy_X5_least rfl rfl rfl ⟨rfl, dh_X5_least⟩ ⟨Nat.le_of_ble_eq_true rfl, Nat.le_of_ble_eq_true rfl⟩) hK hN (hZ.kept hS) hP hD hS hA [0, 1, 2, 3] [] rfl rfl (by decide) (by decide) (by decide) (va_recv (q := (RX5, TX5, 7)) hK hP (ci := 5) (q0 := 0) rfl rfl) rfl hl.1 rfl (Nat.le_of_ble_eq_true rfl) dX5_leastBy_66 ⟨Nat.le_of_ble_eq_true rfl, Nat.le_of_ble_eq_true rfl⟩ (fun r_57 u_58 H locs hr_57 hP hD hS => ?_)
      obtain ⟨q_59, rfl⟩ : ∃ z, z = u_58 := ⟨_, rfl⟩
      have h9R := zRe (ws' := [(w0, .inr (5, [.ref wk, .ref wl, .ref wc, .ref wp, .int wn, .int wh, .int wg])), (wl, .inl (cI, 125, .inl q_59)), (wc, .inl (cI, 3, .inl fc)), (wp, .inl (cP, 8, .inr (.inr (.inr (.inr fp)))))]) hP hD rfl
      clear hP hD
      obtain ⟨hP, hD⟩ := h9R
      refine lv_imul hx hb dX5_leastBy_69 ?_
      refine lv_topi (fun x_60 ex_60 => ?_)
      refine lv_iadd hx hb dX5_leastBy_70 ?_
      refine lv_topi (fun x_61 ex_61 => ?_)
      refine lv_istore (lv' := [(7, .int x_61), (6, .int x_4), (5, .int r_1), (0, .ref w0), (1, .ref u0), (2, .int 1), (3, .int d), (4, .int sec)]) hx hb dX5_leastBy_71 hl (by decide) rfl (fun ls hl => ?_)
      refine lv_iload hx hb dX5_leastBy_73 (lv_at hl 2 rfl) ?_
      refine lv_bipush (v := 12) hx hb dX5_leastBy_75 (by decide) ?_
      refine lv_icmp_ge (tgt := 109) hx hb dX5_leastBy_77 (by decide) (fun c_62 => ?_) (fun c_62 => ?_)
      · have fc_62 : 12 ≤ r_1.toInt := zf_le c_62 (by decide) rfl
        refine lv_iload hx hb dX5_leastBy_109 (lv_at hl 0 rfl) ?_
        exact W.iret (v := x_61) hx hb hr (fun t ht hW => ⟨⟨x_61, q_59, rfl, trivial, zRet ht hP hD [0, 1, 2, 3] (by decide) rfl⟩, hS.F ht⟩) hS.2.2 dX5_leastBy_111
      · have fc_62 : r_1.toInt < 12 := zf_nle c_62 (by decide) rfl
        refine lv_iload hx hb dX5_leastBy_80 (lv_at hl 0 rfl) ?_
        refine lv_bipush (v := 12) hx hb dX5_leastBy_82 (by decide) ?_
        refine lv_iload hx hb dX5_leastBy_84 (lv_at hl 2 rfl) ?_
        refine lv_isub hx hb dX5_leastBy_86 ?_
        refine lv_topi (fun x_63 ex_63 => ?_)
        have qx_63 : x_63.toInt = 12 - r_1.toInt := by rw [ex_63]; exact zf_sub (by decide) rfl (by omega) (by omega)
        refine lv_aload_n hx hb dX5_leastBy_87 rfl (lv_at hl 3 rfl) ?_
        refine lv_iload_n hx hb dX5_leastBy_88 rfl (lv_at hl 5 rfl) ?_
        refine lv_iconst (v := 1) hx hb dX5_leastBy_89 (by decide) ?_
        refine lv_isub hx hb dX5_leastBy_90 ?_
        refine lv_topi (fun y_64 ey_64 => ?_)
        obtain rfl : y_64 = 0 := ey_64.trans (by decide)
        refine lv_aload_n hx hb dX5_leastBy_91 rfl (lv_at hl 4 rfl) ?_
        refine lv_iload_n hx hb dX5_leastBy_92 rfl (lv_at hl 6 rfl) ?_
        refine lv_aload_n hx hb dX5_leastBy_93 rfl (lv_at hl 3 rfl) ?_
        refine va_get (D := D) (ci := 5) (v := .int wh) (C := RX5) (T := TX5) (N := 7) hx hb hts hi_X5_leastBy_5 hown hK hP 0 rfl rfl 5 (by decide) (hts (.fieldLink RX5 31 "TheLiningsInIt$Ways" "hurry" "I") (List.mem_of_getElem? (i := 1) rfl)) (fun _ h9 => h9) rfl dX5_leastBy_94 ?_
        refine zc_V (As := [.int d, .int wh]) (rest := [.int 0, .ref w0, .int x_63, .int x_61]) ⟨hx, hb, hml, hown, hts⟩ (c_Pull_deeper l D cI cJ cZ cP cS po (d) (wh) u0 (ki) (a_) (ta) hu_u0 ⟨by omega, by omega, by omega, by omega⟩ hy9 hy10 hy4 hy5) (cwV 2 hts gX5_leastBy_X2_deeper rfl rfl rfl ⟨rfl, dh_X2_deeper⟩ ⟨Nat.le_of_ble_eq_true rfl, Nat.le_of_ble_eq_true rfl⟩) hK hN (hZ.kept hS) hP zP_nil (va_recv (q := (RX2, TX2, 3)) hK (zPu_P (hZ.kept hS) hu_u0) (ci := 2) (q0 := 0) rfl rfl) rfl hl.1 rfl (Nat.le_of_ble_eq_true rfl) dX5_leastBy_97 ⟨Nat.le_of_ble_eq_true rfl, Nat.le_of_ble_eq_true rfl⟩ (fun r_65 hr_65 => ?_)
        obtain ⟨g_66, g_67⟩ := hr_65
        refine lv_iload hx hb dX5_leastBy_100 (lv_at hl 1 rfl) ?_
        skip
        refine zw_V (As := [.int 0, .int r_65, .int x_4]) (rest := [.int x_63, .int x_61]) (wr := []) ⟨hx, hb, hml, hown, hts⟩ (c_W_least_0 l D cI cJ cZ cP cS po w0 wk wl wc wp (wn) (wh) (wg) fp q_59 fc (r_65) (x_4) hy2 hy3 hy4 hy5 hy6 hy7 hwp (by omega) (by omega) hp_fc H.size) (cwV 3 hts gX5_leastBy_X5_least rfl rfl rfl ⟨rfl, dh_X5_least⟩ ⟨Nat.le_of_ble_eq_true rfl, Nat.le_of_ble_eq_true rfl⟩) hK hN (hZ.kept hS) hP hD hS hA [0, 1, 2, 3] [] rfl rfl (by decide) (by decide) (by decide) (va_recv (q := (RX5, TX5, 7)) hK hP (ci := 5) (q0 := 0) rfl rfl) rfl hl.1 rfl (Nat.le_of_ble_eq_true rfl) dX5_leastBy_102 ⟨Nat.le_of_ble_eq_true rfl, Nat.le_of_ble_eq_true rfl⟩ (fun r_68 u_69 H locs hr_68 hP hD hS => ?_)
        obtain ⟨q_70, rfl⟩ : ∃ z, z = u_69 := ⟨_, rfl⟩
        have h9R := zRe (ws' := [(w0, .inr (5, [.ref wk, .ref wl, .ref wc, .ref wp, .int wn, .int wh, .int wg])), (wl, .inl (cI, 125, .inl q_70)), (wc, .inl (cI, 3, .inl fc)), (wp, .inl (cP, 8, .inr (.inr (.inr (.inr fp)))))]) hP hD rfl
        clear hP hD
        obtain ⟨hP, hD⟩ := h9R
        refine lv_imul hx hb dX5_leastBy_105 ?_
        refine lv_topi (fun x_71 ex_71 => ?_)
        refine lv_iadd hx hb dX5_leastBy_106 ?_
        refine lv_topi (fun x_72 ex_72 => ?_)
        refine lv_istore (lv' := [(7, .int x_72), (6, .int x_4), (5, .int r_1), (0, .ref w0), (1, .ref u0), (2, .int 1), (3, .int d), (4, .int sec)]) hx hb dX5_leastBy_107 hl (by decide) rfl (fun ls hl => ?_)
        refine lv_iload hx hb dX5_leastBy_109 (lv_at hl 0 rfl) ?_
        exact W.iret (v := x_72) hx hb hr (fun t ht hW => ⟨⟨x_72, q_70, rfl, trivial, zRet ht hP hD [0, 1, 2, 3] (by decide) rfl⟩, hS.F ht⟩) hS.2.2 dX5_leastBy_111
set_option maxHeartbeats 4000000 in
set_option maxRecDepth 100000 in
theorem c_W_least_1 (l : Launch) (D : va_G) (cI cJ cZ cP cS : ClassId) (po : zPool) (w0 wk wl wc wp : Nat) (wn wh wg : Int32) (fp : Nat → Option Nat) (fl fc : Nat → Int32) (d sec : Int32) (hy0 : 0 ≤ wn.toInt) (hy1 : wn.toInt ≤ 8) (hy2 : 0 ≤ wh.toInt) (hy3 : wh.toInt ≤ 9) (hy4 : 0 ≤ wg.toInt) (hy5 : wg.toInt ≤ 60) (hwp : zWP po fp) (hy7 : 0 ≤ d.toInt) (hy8 : d.toInt ≤ 24) (hp_fc : zRg fc (0) 99) (hpz : Nat) : Met l yX5_least wsX5_least ({ frames := 4, cells := 0, slots := 0, locals := 98 }) (va_Pc [.ref w0, .int 1, .int d, .int sec] (zW D (zKT cI cJ cZ cP cS) po [(w0, .inr (5, [.ref wk, .ref wl, .ref wc, .ref wp, .int wn, .int wh, .int wg])), (wl, .inl (cI, 125, .inl fl)), (wc, .inl (cI, 3, .inl fc)), (wp, .inl (cP, 8, .inr (.inr (.inr (.inr fp)))))] hpz)) (va_Qi (fun (r : Int32) (fl2 : (Nat → Int32)) => True) (zB D [(w0, .inr (5, [.ref wk, .ref wl, .ref wc, .ref wp, .int wn, .int wh, .int wg])), (wl, .inl (cI, 125, .inl fl)), (wc, .inl (cI, 3, .inl fc)), (wp, .inl (cP, 8, .inr (.inr (.inr (.inr fp)))))] hpz (fun (fl2 : Nat → Int32) => [(w0, .inr (5, [.ref wk, .ref wl, .ref wc, .ref wp, .int wn, .int wh, .int wg])), (wl, .inl (cI, 125, .inl fl2)), (wc, .inl (cI, 3, .inl fc)), (wp, .inl (cP, 8, .inr (.inr (.inr (.inr fp)))))])) (va_A [(w0, .inr (5, [.ref wk, .ref wl, .ref wc, .ref wp, .int wn, .int wh, .int wg])), (wl, .inl (cI, 125, .inl fl)), (wc, .inl (cI, 3, .inl fc)), (wp, .inl (cP, 8, .inr (.inr (.inr (.inr fp)))))] hpz)) 0 0 (va_A [(w0, .inr (5, [.ref wk, .ref wl, .ref wc, .ref wp, .int wn, .int wh, .int wg])), (wl, .inl (cI, 125, .inl fl)), (wc, .inl (cI, 3, .inl fc)), (wp, .inl (cP, 8, .inr (.inr (.inr (.inr fp)))))] hpz) := by
  refine Met.ofW (cc := cX5_least) (maxL := 9) (ret := (some .int)) (by decide) rfl ?_
  intro p e s m args below meth c s₁ B hml hv
  obtain ⟨rfl, hsz, hP, hK, hD0, hN, hZ⟩ := hv
  have hx := B.exec
  have hb := B.bytes
  have hr := B.returns
  have hts := atoms_spec (ws := wsX5_least) B.pre
  have hown : s.vm.findClass RX5 = some m.cls := findClass_of_methodNamed B.named
  have hlocks := B.notSynchronized
  subst hsz
  have hD := hD0.self (sz := s.heap.size)
  have hA := zA_of hD
  have hl := lv_entry ([.ref w0, .int 1, .int d, .int sec]) (n := 9) (Nat.le_of_ble_eq_true rfl)
  rw [lg_entry_eq]
  generalize (lg_sl ([.ref w0, .int 1, .int d, .int sec]) ++ List.replicate (9 - (lg_sl ([.ref w0, .int 1, .int d, .int sec])).length) Slot.unset).toArray = ls at hl ⊢
  replace hl : lv_has ls 9 [(0, .ref w0), (1, .int 1), (2, .int d), (3, .int sec)] := hl
  refine zw_begin hP hD (fun H locs hP1 hS => ?_)
  clear hP
  have hP := hP1
  clear hP1
  refine lv_iload_n hx hb dX5_least_0 rfl (lv_at hl 1 rfl) ?_
  refine lv_if_lt (tgt := 20) hx hb dX5_least_1 (by decide) (fun c_1 => ?_) (fun c_1 => ?_)
  · exact absurd c_1 (by decide)
  · refine lv_iload_n hx hb dX5_least_4 rfl (lv_at hl 1 rfl) ?_
    refine lv_iconst (v := 4) hx hb dX5_least_5 (by decide) ?_
    refine lv_icmp_gt (tgt := 20) hx hb dX5_least_6 (by decide) (fun c_2 => ?_) (fun c_2 => ?_)
    · exact absurd c_2 (by decide)
    · refine lv_iload_n hx hb dX5_least_9 rfl (lv_at hl 2 rfl) ?_
      refine lv_iconst (v := 1) hx hb dX5_least_10 (by decide) ?_
      refine lv_icmp_lt (tgt := 20) hx hb dX5_least_11 (by decide) (fun c_3 => ?_) (fun c_3 => ?_)
      · have fc_3 : d.toInt < 1 := zf_lt c_3 rfl (by decide)
        refine lv_iconst (v := 0) hx hb dX5_least_20 (by decide) ?_
        exact W.iret (v := 0) hx hb hr (fun t ht hW => ⟨⟨0, fl, rfl, trivial, zRet ht hP hD [0, 1, 2, 3] (by decide) rfl⟩, hS.F ht⟩) hS.2.2 dX5_least_21
      · have fc_3 : 1 ≤ d.toInt := zf_nlt c_3 rfl (by decide)
        refine lv_iload_n hx hb dX5_least_14 rfl (lv_at hl 2 rfl) ?_
        refine lv_bipush (v := 24) hx hb dX5_least_15 (by decide) ?_
        refine lv_icmp_le (tgt := 22) hx hb dX5_least_17 (by decide) (fun c_4 => ?_) (fun c_4 => ?_)
        · have fc_4 : d.toInt ≤ 24 := zf_le c_4 rfl (by decide)
          refine lv_iload_n hx hb dX5_least_22 rfl (lv_at hl 3 rfl) ?_
          refine lv_iload_n hx hb dX5_least_23 rfl (lv_at hl 1 rfl) ?_
          refine lv_aload_n hx hb dX5_least_24 rfl (lv_at hl 0 rfl) ?_
          refine va_get (D := D) (ci := 5) (v := .int wg) (C := RX5) (T := TX5) (N := 7) hx hb hts hi_X5_least_5 hown hK hP 0 rfl rfl 6 (by decide) (hts (.fieldLink RX5 34 "TheLiningsInIt$Ways" "longest" "I") (List.mem_of_getElem? (i := 1) rfl)) (fun _ h9 => h9) rfl dX5_least_25 ?_
          refine lv_imul hx hb dX5_least_28 ?_
          refine lv_topi (fun x_5 ex_5 => ?_)
          have qx_5 : x_5.toInt = 1 * wg.toInt := by rw [ex_5]; exact zf_mul (by decide) rfl (by omega) (by omega)
          refine lv_bipush (v := 30) hx hb dX5_least_29 (by decide) ?_
          refine lv_iadd hx hb dX5_least_31 ?_
          refine lv_topi (fun x_6 ex_6 => ?_)
          have qx_6 : x_6.toInt = x_5.toInt + 30 := by rw [ex_6]; exact zf_add rfl (by decide) (by omega) (by omega)
          refine lv_icmp_lt (tgt := 39) hx hb dX5_least_32 (by decide) (fun c_7 => ?_) (fun c_7 => ?_)
          · have fc_7 : sec.toInt < x_6.toInt := zf_lt c_7 rfl rfl
            refine lv_iconst (v := 0) hx hb dX5_least_39 (by decide) ?_
            refine lv_istore (lv' := [(4, .int 0), (0, .ref w0), (1, .int 1), (2, .int d), (3, .int sec)]) hx hb dX5_least_40 hl (by decide) rfl (fun ls hl => ?_)
            refine lv_iload_n hx hb dX5_least_42 rfl (lv_at hl 2 rfl) ?_
            refine lv_bipush (v := 25) hx hb dX5_least_43 (by decide) ?_
            refine lv_imul hx hb dX5_least_45 ?_
            refine lv_topi (fun y_8 ey_8 => ?_)
            obtain rfl : y_8 = 25 := ey_8.trans (by decide)
            refine lv_iload_n hx hb dX5_least_46 rfl (lv_at hl 3 rfl) ?_
            refine lv_iadd hx hb dX5_least_47 ?_
            refine lv_topi (fun x_9 ex_9 => ?_)
            have qx_9 : x_9.toInt = 25 + d.toInt := by rw [ex_9]; exact zf_add (by decide) rfl (by omega) (by omega)
            refine lv_istore (lv' := [(5, .int x_9), (4, .int 0), (0, .ref w0), (1, .int 1), (2, .int d), (3, .int sec)]) hx hb dX5_least_48 hl (by decide) rfl (fun ls hl => ?_)
            refine lv_iload hx hb dX5_least_50 (lv_at hl 1 rfl) ?_
            refine lv_if_eq (tgt := 74) hx hb dX5_least_52 (by decide) (fun c_10 => ?_) (fun c_10 => ?_)
            · refine lv_aload_n hx hb dX5_least_74 rfl (lv_at hl 2 rfl) ?_
              refine lv_iload_n hx hb dX5_least_75 rfl (lv_at hl 3 rfl) ?_
              refine lv_iload_n hx hb dX5_least_76 rfl (lv_at hl 5 rfl) ?_
              refine zc_V (As := [.int 1, .int sec]) (rest := []) ⟨hx, hb, hml, hown, hts⟩ (c_W_leastAtOnce_1 l D cI cJ cZ cP cS po w0 wk wl wc wp (wn) (wh) (wg) fc (sec) hy0 hy1 hy2 hy3 hy4 hy5 hp_fc) (cwV 2 hts gX5_least_X5_leastAtOnce rfl rfl rfl ⟨rfl, dh_X5_leastAtOnce⟩ ⟨Nat.le_of_ble_eq_true rfl, Nat.le_of_ble_eq_true rfl⟩) hK hN (hZ.kept hS) hP (hP.sub [0, 2] rfl) (va_recv (q := (RX5, TX5, 7)) hK hP (ci := 5) (q0 := 0) rfl rfl) rfl hl.1 rfl (Nat.le_of_ble_eq_true rfl) dX5_least_77 ⟨Nat.le_of_ble_eq_true rfl, Nat.le_of_ble_eq_true rfl⟩ (fun r_11 hr_11 => ?_)
              refine lv_istore (lv' := [(6, .int r_11), (5, .int x_9), (4, .int 0), (0, .ref w0), (1, .int 1), (2, .int d), (3, .int sec)]) hx hb dX5_least_80 hl (by decide) rfl (fun ls hl => ?_)
              refine lv_iconst (v := 0) hx hb dX5_least_82 (by decide) ?_
              refine lv_istore (lv' := [(7, .int 0), (6, .int r_11), (5, .int x_9), (4, .int 0), (0, .ref w0), (1, .int 1), (2, .int d), (3, .int sec)]) hx hb dX5_least_83 hl (by decide) rfl (fun ls hl => ?_)
              obtain ⟨i_85, hi_85⟩ : ∃ i : Int32, i = 0 := ⟨_, rfl⟩
              replace hl : lv_has ls 9 [(7, .int i_85), (6, .int r_11), (5, .int x_9), (4, .int 0), (0, .ref w0), (1, .int 1), (2, .int d), (3, .int sec)] := by rw [hi_85]; exact lv_sub hl [0, 1, 2, 3, 4, 5, 6, 7] rfl
              have h1i_85 : i_85.toInt = 0 := by rw [hi_85]; decide
              obtain ⟨nfu, hni_85⟩ : ∃ nq9 : Nat, wn.toInt ≤ i_85.toInt + (nq9 : Int) := ⟨((wn.toInt : Int) - 0).toNat, by omega⟩
              have hloi_85 : 0 ≤ i_85.toInt := by omega
              obtain ⟨g_12, hg_12⟩ : ∃ g : Nat → Int32, g = fl := ⟨_, rfl⟩
              replace hP : va_P D vwCl [(w0, .inr (5, [.ref wk, .ref wl, .ref wc, .ref wp, .int wn, .int wh, .int wg])), (wl, .inl (cI, 125, .inl g_12)), (wc, .inl (cI, 3, .inl fc)), (wp, .inl (cP, 8, .inr (.inr (.inr (.inr fp)))))] H := by rw [hg_12]; exact hP
              replace hD : va_D (va_A [(w0, .inr (5, [.ref wk, .ref wl, .ref wc, .ref wp, .int wn, .int wh, .int wg])), (wl, .inl (cI, 125, .inl fl)), (wc, .inl (cI, 3, .inl fc)), (wp, .inl (cP, 8, .inr (.inr (.inr (.inr fp)))))] s.heap.size) [(w0, .inr (5, [.ref wk, .ref wl, .ref wc, .ref wp, .int wn, .int wh, .int wg])), (wl, .inl (cI, 125, .inl g_12)), (wc, .inl (cI, 3, .inl fc)), (wp, .inl (cP, 8, .inr (.inr (.inr (.inr fp)))))] := by rw [hg_12]; exact hD
              obtain ⟨v_13, hv_13⟩ : ∃ g : Int32, g = r_11 := ⟨_, rfl⟩
              replace hl : lv_has ls 9 [(7, .int i_85), (6, .int v_13), (5, .int x_9), (4, .int 0), (0, .ref w0), (1, .int 1), (2, .int d), (3, .int sec)] := by rw [hv_13]; exact hl
              clear h1i_85 hi_85 hg_12 hv_13
              skip
              revert hni_85
              revert hloi_85
              revert hl
              revert hS
              revert hD
              revert hP
              revert ls
              revert locs
              revert H
              revert g_12
              revert v_13
              revert i_85
              induction nfu with
              | zero =>
                intro i_85 v_13 g_12 H locs ls hP hD hS hl hloi_85 hni_85
                have hzi_85 : wn.toInt ≤ i_85.toInt := by omega
                refine lv_iload hx hb dX5_least_85 (lv_at hl 0 rfl) ?_
                refine lv_aload_n hx hb dX5_least_87 rfl (lv_at hl 4 rfl) ?_
                refine va_get (D := D) (ci := 5) (v := .int wn) (C := RX5) (T := TX5) (N := 7) hx hb hts hi_X5_least_5 hown hK hP 0 rfl rfl 4 (by decide) (hts (.fieldLink RX5 27 "TheLiningsInIt$Ways" "count" "I") (List.mem_of_getElem? (i := 3) rfl)) (fun _ h9 => h9) rfl dX5_least_88 ?_
                refine lv_icmp_ge (tgt := 135) hx hb dX5_least_91 (by decide) (fun c_14 => ?_) (fun c_14 => ?_)
                · have fc_14 : wn.toInt ≤ i_85.toInt := zf_le c_14 rfl rfl
                  refine lv_iload hx hb dX5_least_135 (lv_at hl 3 rfl) ?_
                  refine lv_if_eq (tgt := 149) hx hb dX5_least_137 (by decide) (fun c_15 => ?_) (fun c_15 => ?_)
                  · refine lv_iload hx hb dX5_least_149 (lv_at hl 1 rfl) ?_
                    exact W.iret (v := v_13) hx hb hr (fun t ht hW => ⟨⟨v_13, g_12, rfl, trivial, zRet ht hP hD [0, 1, 2, 3] (by decide) rfl⟩, hS.F ht⟩) hS.2.2 dX5_least_151
                  · exact absurd c_15 (by decide)
                · exfalso; have fc_14 : i_85.toInt < wn.toInt := zf_nle c_14 rfl rfl; omega
              | succ nfu ih =>
                intro i_85 v_13 g_12 H locs ls hP hD hS hl hloi_85 hni_85
                refine lv_iload hx hb dX5_least_85 (lv_at hl 0 rfl) ?_
                refine lv_aload_n hx hb dX5_least_87 rfl (lv_at hl 4 rfl) ?_
                refine va_get (D := D) (ci := 5) (v := .int wn) (C := RX5) (T := TX5) (N := 7) hx hb hts hi_X5_least_5 hown hK hP 0 rfl rfl 4 (by decide) (hts (.fieldLink RX5 27 "TheLiningsInIt$Ways" "count" "I") (List.mem_of_getElem? (i := 3) rfl)) (fun _ h9 => h9) rfl dX5_least_88 ?_
                refine lv_icmp_ge (tgt := 135) hx hb dX5_least_91 (by decide) (fun c_16 => ?_) (fun c_16 => ?_)
                · have fc_16 : wn.toInt ≤ i_85.toInt := zf_le c_16 rfl rfl
                  refine lv_iload hx hb dX5_least_135 (lv_at hl 3 rfl) ?_
                  refine lv_if_eq (tgt := 149) hx hb dX5_least_137 (by decide) (fun c_17 => ?_) (fun c_17 => ?_)
                  · refine lv_iload hx hb dX5_least_149 (lv_at hl 1 rfl) ?_
                    exact W.iret (v := v_13) hx hb hr (fun t ht hW => ⟨⟨v_13, g_12, rfl, trivial, zRet ht hP hD [0, 1, 2, 3] (by decide) rfl⟩, hS.F ht⟩) hS.2.2 dX5_least_151
                  · exact absurd c_17 (by decide)
                · have fc_16 : i_85.toInt < wn.toInt := zf_nle c_16 rfl rfl
                  refine lv_iload_n hx hb dX5_least_94 rfl (lv_at hl 5 rfl) ?_
                  refine lv_if_le (tgt := 135) hx hb dX5_least_95 (by decide) (fun c_18 => ?_) (fun c_18 => ?_)
                  · exact absurd c_18 (by decide)
                  · refine lv_aload_n hx hb dX5_least_98 rfl (lv_at hl 4 rfl) ?_
                    refine lv_iload hx hb dX5_least_99 (lv_at hl 0 rfl) ?_
                    refine lv_iload_n hx hb dX5_least_101 rfl (lv_at hl 6 rfl) ?_
                    refine lv_iload_n hx hb dX5_least_102 rfl (lv_at hl 7 rfl) ?_
                    refine zc_Vq (As := [.int i_85, .int d, .int sec]) (rest := []) ⟨hx, hb, hml, hown, hts⟩ (c_W_mayBeAt l D cI cJ cZ cP cS po w0 wk wl wc wp (wn) (wh) (wg) fp (i_85) (d) (sec) hy0 hy1 hy2 hy3 hy4 hy5 hwp) (cwV 3 hts gX5_least_X5_mayBeAt rfl rfl rfl ⟨rfl, dh_X5_mayBeAt⟩ ⟨Nat.le_of_ble_eq_true rfl, Nat.le_of_ble_eq_true rfl⟩) hK hN (hZ.kept hS) hP (hP.sub [0, 3] rfl) (va_recv (q := (RX5, TX5, 7)) hK hP (ci := 5) (q0 := 0) rfl rfl) rfl hl.1 rfl (Nat.le_of_ble_eq_true rfl) dX5_least_103 ⟨Nat.le_of_ble_eq_true rfl, Nat.le_of_ble_eq_true rfl⟩ (fun r_19 hr_19 => ?_)
                    rcases hr_19 with ⟨rfl, g_20⟩ | ⟨rfl, g_21, g_22⟩ | ⟨rfl, g_23, g_24⟩ | ⟨rfl, g_25, g_26, g_27⟩ | ⟨rfl, g_28, g_29, g_30⟩ | ⟨⟨u_34, kiu_34, au_34, tu_34, rfl, huu_34⟩, g_31, g_32, g_33⟩
                    · exfalso; omega
                    · exfalso; omega
                    · refine lv_astoreN (lv' := [(8, .null), (7, .int i_85), (6, .int v_13), (5, .int x_9), (4, .int 0), (0, .ref w0), (1, .int 1), (2, .int d), (3, .int sec)]) hx hb dX5_least_106 hl (by decide) rfl (fun ls hl => ?_)
                      refine lv_aloadN hx hb dX5_least_108 (lv_at hl 0 rfl) ?_
                      refine lv_ifnullN (tgt := 129) hx hb dX5_least_110 (by decide) ?_
                      obtain ⟨x_35, ex_35⟩ : ∃ y : Int32, y = i_85 + 1 := ⟨_, rfl⟩
                      have qx_35 : x_35.toInt = i_85.toInt + 1 := dw_inc ex_35 fc_16
                      refine lv_iinc (v := x_35) (lv' := [(7, .int x_35), (8, .null), (6, .int v_13), (5, .int x_9), (4, .int 0), (0, .ref w0), (1, .int 1), (2, .int d), (3, .int sec)]) hx hb dX5_least_129 hl (k := 1) rfl ex_35.symm (by decide) rfl (fun ls hl => ?_)
                      refine lv_goto (tgt := 85) hx hb dX5_least_132 (by decide) ?_
                      exact ih x_35 v_13 (g_12) _ _ _ (hP.sub [0, 1, 2, 3] rfl) (hD.sub [0, 1, 2, 3] (by decide) rfl) hS (lv_sub hl [0, 2, 3, 4, 5, 6, 7, 8] rfl) (dw_lo hloi_85 qx_35) (dw_hn hni_85 qx_35)
                    · exfalso; omega
                    · refine lv_astoreN (lv' := [(8, .null), (7, .int i_85), (6, .int v_13), (5, .int x_9), (4, .int 0), (0, .ref w0), (1, .int 1), (2, .int d), (3, .int sec)]) hx hb dX5_least_106 hl (by decide) rfl (fun ls hl => ?_)
                      refine lv_aloadN hx hb dX5_least_108 (lv_at hl 0 rfl) ?_
                      refine lv_ifnullN (tgt := 129) hx hb dX5_least_110 (by decide) ?_
                      obtain ⟨x_36, ex_36⟩ : ∃ y : Int32, y = i_85 + 1 := ⟨_, rfl⟩
                      have qx_36 : x_36.toInt = i_85.toInt + 1 := dw_inc ex_36 fc_16
                      refine lv_iinc (v := x_36) (lv' := [(7, .int x_36), (8, .null), (6, .int v_13), (5, .int x_9), (4, .int 0), (0, .ref w0), (1, .int 1), (2, .int d), (3, .int sec)]) hx hb dX5_least_129 hl (k := 1) rfl ex_36.symm (by decide) rfl (fun ls hl => ?_)
                      refine lv_goto (tgt := 85) hx hb dX5_least_132 (by decide) ?_
                      exact ih x_36 v_13 (g_12) _ _ _ (hP.sub [0, 1, 2, 3] rfl) (hD.sub [0, 1, 2, 3] (by decide) rfl) hS (lv_sub hl [0, 2, 3, 4, 5, 6, 7, 8] rfl) (dw_lo hloi_85 qx_36) (dw_hn hni_85 qx_36)
                    · refine W.eq (g2 := F0 m 106 ls (.ref u_34 :: [])) rfl ?_
                      obtain ⟨hku_34, hau_34, htu_34⟩ := zPu_pr (hZ.kept hS) huu_34
                      refine lv_astore (lv' := [(8, .ref u_34), (7, .int i_85), (6, .int v_13), (5, .int x_9), (4, .int 0), (0, .ref w0), (1, .int 1), (2, .int d), (3, .int sec)]) hx hb dX5_least_106 hl (by decide) rfl (fun ls hl => ?_)
                      refine lv_aload hx hb dX5_least_108 (lv_at hl 0 rfl) ?_
                      refine lv_ifnull hx hb dX5_least_110 ?_
                      refine lv_iload hx hb dX5_least_113 (lv_at hl 2 rfl) ?_
                      refine lv_aload_n hx hb dX5_least_115 rfl (lv_at hl 5 rfl) ?_
                      refine lv_aload hx hb dX5_least_116 (lv_at hl 0 rfl) ?_
                      refine lv_iload_n hx hb dX5_least_118 rfl (lv_at hl 6 rfl) ?_
                      refine lv_iload_n hx hb dX5_least_119 rfl (lv_at hl 7 rfl) ?_
                      refine lv_iload_n hx hb dX5_least_120 rfl (lv_at hl 8 rfl) ?_
                      skip
                      refine zw_V (As := [.ref u_34, .int 1, .int d, .int sec]) (rest := [.int v_13]) (wr := []) ⟨hx, hb, hml, hown, hts⟩ (c_W_leastBy_1 l D cI cJ cZ cP cS po w0 wk wl wc wp (wn) (wh) (wg) fp g_12 fc (d) (sec) u_34 (kiu_34) (au_34) (tu_34) huu_34 ⟨by omega, by omega, by omega, by omega⟩ hy0 hy1 hy2 hy3 hy4 hy5 hwp hy7 hy8 hp_fc H.size) (cwV 4 hts gX5_least_X5_leastBy rfl rfl rfl ⟨rfl, dh_X5_leastBy⟩ ⟨Nat.le_of_ble_eq_true rfl, Nat.le_of_ble_eq_true rfl⟩) hK hN (hZ.kept hS) hP hD hS hA [0, 1, 2, 3] [] rfl rfl (by decide) (by decide) (by decide) (va_recv (q := (RX5, TX5, 7)) hK hP (ci := 5) (q0 := 0) rfl rfl) rfl hl.1 rfl (Nat.le_of_ble_eq_true rfl) dX5_least_121 ⟨Nat.le_of_ble_eq_true rfl, Nat.le_of_ble_eq_true rfl⟩ (fun r_37 u_38 H locs hr_37 hP hD hS => ?_)
                      obtain ⟨q_39, rfl⟩ : ∃ z, z = u_38 := ⟨_, rfl⟩
                      have h9R := zRe (ws' := [(w0, .inr (5, [.ref wk, .ref wl, .ref wc, .ref wp, .int wn, .int wh, .int wg])), (wl, .inl (cI, 125, .inl q_39)), (wc, .inl (cI, 3, .inl fc)), (wp, .inl (cP, 8, .inr (.inr (.inr (.inr fp)))))]) hP hD rfl
                      clear hP hD
                      obtain ⟨hP, hD⟩ := h9R
                      refine va_mmin hx hb (hml.trans hl.1.symm) hown (hts (.methodLink RX5 110 Lib.Math.min.name) (List.mem_of_getElem? (i := 4) rfl)) (hts _ (List.mem_of_getElem? (i := 5) rfl)) (hts _ (List.mem_of_getElem? (i := 6) rfl)) (hts _ (List.mem_of_getElem? (i := 7) rfl)) (Nat.le_of_ble_eq_true rfl) (Nat.le_of_ble_eq_true rfl) (Nat.le_of_ble_eq_true rfl) (Nat.le_of_ble_eq_true rfl) dX5_least_124 ?_
                      refine lv_topi (fun x_40 ex_40 => ?_)
                      have qx_40 := zf_min ex_40 (x1 := v_13.toInt) (y1 := r_37.toInt) rfl rfl
                      refine lv_istore (lv' := [(6, .int x_40), (8, .ref u_34), (7, .int i_85), (5, .int x_9), (4, .int 0), (0, .ref w0), (1, .int 1), (2, .int d), (3, .int sec)]) hx hb dX5_least_127 hl (by decide) rfl (fun ls hl => ?_)
                      obtain ⟨x_41, ex_41⟩ : ∃ y : Int32, y = i_85 + 1 := ⟨_, rfl⟩
                      have qx_41 : x_41.toInt = i_85.toInt + 1 := dw_inc ex_41 fc_16
                      refine lv_iinc (v := x_41) (lv' := [(7, .int x_41), (6, .int x_40), (8, .ref u_34), (5, .int x_9), (4, .int 0), (0, .ref w0), (1, .int 1), (2, .int d), (3, .int sec)]) hx hb dX5_least_129 hl (k := 2) rfl ex_41.symm (by decide) rfl (fun ls hl => ?_)
                      refine lv_goto (tgt := 85) hx hb dX5_least_132 (by decide) ?_
                      exact ih x_41 x_40 (q_39) _ _ _ (hP.sub [0, 1, 2, 3] rfl) (hD.sub [0, 1, 2, 3] (by decide) rfl) hS (lv_sub hl [0, 1, 3, 4, 5, 6, 7, 8] rfl) (dw_lo hloi_85 qx_41) (dw_hn hni_85 qx_41)
            · exact absurd c_10 (by decide)
          · have fc_7 : x_6.toInt ≤ sec.toInt := zf_nlt c_7 rfl rfl
            refine lv_iconst (v := 1) hx hb dX5_least_35 (by decide) ?_
            refine lv_goto (tgt := 40) hx hb dX5_least_36 (by decide) ?_
            refine lv_istore (lv' := [(4, .int 1), (0, .ref w0), (1, .int 1), (2, .int d), (3, .int sec)]) hx hb dX5_least_40 hl (by decide) rfl (fun ls hl => ?_)
            refine lv_iload_n hx hb dX5_least_42 rfl (lv_at hl 2 rfl) ?_
            refine lv_bipush (v := 25) hx hb dX5_least_43 (by decide) ?_
            refine lv_imul hx hb dX5_least_45 ?_
            refine lv_topi (fun y_42 ey_42 => ?_)
            obtain rfl : y_42 = 25 := ey_42.trans (by decide)
            refine lv_iload_n hx hb dX5_least_46 rfl (lv_at hl 3 rfl) ?_
            refine lv_iadd hx hb dX5_least_47 ?_
            refine lv_topi (fun x_43 ex_43 => ?_)
            have qx_43 : x_43.toInt = 25 + d.toInt := by rw [ex_43]; exact zf_add (by decide) rfl (by omega) (by omega)
            refine lv_istore (lv' := [(5, .int x_43), (4, .int 1), (0, .ref w0), (1, .int 1), (2, .int d), (3, .int sec)]) hx hb dX5_least_48 hl (by decide) rfl (fun ls hl => ?_)
            refine lv_iload hx hb dX5_least_50 (lv_at hl 1 rfl) ?_
            refine lv_if_eq (tgt := 74) hx hb dX5_least_52 (by decide) (fun c_44 => ?_) (fun c_44 => ?_)
            · exact absurd c_44 (by decide)
            · refine lv_aload_n hx hb dX5_least_55 rfl (lv_at hl 2 rfl) ?_
              refine va_get (D := D) (ci := 5) (v := .ref wl) (C := RX5) (T := TX5) (N := 7) hx hb hts hi_X5_least_5 hown hK hP 0 rfl rfl 1 (by decide) (hts (.fieldLink RX5 15 "TheLiningsInIt$Ways" "knownLeast" "[I") (List.mem_of_getElem? (i := 2) rfl)) (fun _ h9 => h9) rfl dX5_least_56 ?_
              refine lv_iload hx hb dX5_least_59 (lv_at hl 0 rfl) ?_
              refine va_iald hx hb hK hP 1 0 rfl rfl (zf_in (by omega) (by omega)) dX5_least_61 ?_
              refine lv_topi (fun x_45 ex_45 => ?_)
              refine lv_iconst (v := (-1)) hx hb dX5_least_62 (by decide) ?_
              refine lv_icmp_eq (tgt := 74) hx hb dX5_least_63 (by decide) (fun c_46 => ?_) (fun c_46 => ?_)
              · have fc_46 : x_45.toInt = (-1) := zf_eq c_46 rfl (by decide)
                refine lv_aload_n hx hb dX5_least_74 rfl (lv_at hl 2 rfl) ?_
                refine lv_iload_n hx hb dX5_least_75 rfl (lv_at hl 3 rfl) ?_
                refine lv_iload_n hx hb dX5_least_76 rfl (lv_at hl 5 rfl) ?_
                refine zc_V (As := [.int 1, .int sec]) (rest := []) ⟨hx, hb, hml, hown, hts⟩ (c_W_leastAtOnce_1 l D cI cJ cZ cP cS po w0 wk wl wc wp (wn) (wh) (wg) fc (sec) hy0 hy1 hy2 hy3 hy4 hy5 hp_fc) (cwV 2 hts gX5_least_X5_leastAtOnce rfl rfl rfl ⟨rfl, dh_X5_leastAtOnce⟩ ⟨Nat.le_of_ble_eq_true rfl, Nat.le_of_ble_eq_true rfl⟩) hK hN (hZ.kept hS) hP (hP.sub [0, 2] rfl) (va_recv (q := (RX5, TX5, 7)) hK hP (ci := 5) (q0 := 0) rfl rfl) rfl hl.1 rfl (Nat.le_of_ble_eq_true rfl) dX5_least_77 ⟨Nat.le_of_ble_eq_true rfl, Nat.le_of_ble_eq_true rfl⟩ (fun r_47 hr_47 => ?_)
                refine lv_istore (lv' := [(6, .int r_47), (5, .int x_43), (4, .int 1), (0, .ref w0), (1, .int 1), (2, .int d), (3, .int sec)]) hx hb dX5_least_80 hl (by decide) rfl (fun ls hl => ?_)
                refine lv_iconst (v := 0) hx hb dX5_least_82 (by decide) ?_
                refine lv_istore (lv' := [(7, .int 0), (6, .int r_47), (5, .int x_43), (4, .int 1), (0, .ref w0), (1, .int 1), (2, .int d), (3, .int sec)]) hx hb dX5_least_83 hl (by decide) rfl (fun ls hl => ?_)
                obtain ⟨i_85, hi_85⟩ : ∃ i : Int32, i = 0 := ⟨_, rfl⟩
                replace hl : lv_has ls 9 [(7, .int i_85), (6, .int r_47), (5, .int x_43), (4, .int 1), (0, .ref w0), (1, .int 1), (2, .int d), (3, .int sec)] := by rw [hi_85]; exact lv_sub hl [0, 1, 2, 3, 4, 5, 6, 7] rfl
                have h1i_85 : i_85.toInt = 0 := by rw [hi_85]; decide
                obtain ⟨nfu, hni_85⟩ : ∃ nq9 : Nat, wn.toInt ≤ i_85.toInt + (nq9 : Int) := ⟨((wn.toInt : Int) - 0).toNat, by omega⟩
                have hloi_85 : 0 ≤ i_85.toInt := by omega
                obtain ⟨g_48, hg_48⟩ : ∃ g : Nat → Int32, g = fl := ⟨_, rfl⟩
                replace hP : va_P D vwCl [(w0, .inr (5, [.ref wk, .ref wl, .ref wc, .ref wp, .int wn, .int wh, .int wg])), (wl, .inl (cI, 125, .inl g_48)), (wc, .inl (cI, 3, .inl fc)), (wp, .inl (cP, 8, .inr (.inr (.inr (.inr fp)))))] H := by rw [hg_48]; exact hP
                replace hD : va_D (va_A [(w0, .inr (5, [.ref wk, .ref wl, .ref wc, .ref wp, .int wn, .int wh, .int wg])), (wl, .inl (cI, 125, .inl fl)), (wc, .inl (cI, 3, .inl fc)), (wp, .inl (cP, 8, .inr (.inr (.inr (.inr fp)))))] s.heap.size) [(w0, .inr (5, [.ref wk, .ref wl, .ref wc, .ref wp, .int wn, .int wh, .int wg])), (wl, .inl (cI, 125, .inl g_48)), (wc, .inl (cI, 3, .inl fc)), (wp, .inl (cP, 8, .inr (.inr (.inr (.inr fp)))))] := by rw [hg_48]; exact hD
                obtain ⟨v_49, hv_49⟩ : ∃ g : Int32, g = r_47 := ⟨_, rfl⟩
                replace hl : lv_has ls 9 [(7, .int i_85), (6, .int v_49), (5, .int x_43), (4, .int 1), (0, .ref w0), (1, .int 1), (2, .int d), (3, .int sec)] := by rw [hv_49]; exact hl
                clear h1i_85 hi_85 hg_48 hv_49
                skip
                revert hni_85
                revert hloi_85
                revert hl
                revert hS
                revert hD
                revert hP
                revert ls
                revert locs
                revert H
                revert g_48
                revert v_49
                revert i_85
                induction nfu with
                | zero =>
                  intro i_85 v_49 g_48 H locs ls hP hD hS hl hloi_85 hni_85
                  have hzi_85 : wn.toInt ≤ i_85.toInt := by omega
                  refine lv_iload hx hb dX5_least_85 (lv_at hl 0 rfl) ?_
                  refine lv_aload_n hx hb dX5_least_87 rfl (lv_at hl 4 rfl) ?_
                  refine va_get (D := D) (ci := 5) (v := .int wn) (C := RX5) (T := TX5) (N := 7) hx hb hts hi_X5_least_5 hown hK hP 0 rfl rfl 4 (by decide) (hts (.fieldLink RX5 27 "TheLiningsInIt$Ways" "count" "I") (List.mem_of_getElem? (i := 3) rfl)) (fun _ h9 => h9) rfl dX5_least_88 ?_
                  refine lv_icmp_ge (tgt := 135) hx hb dX5_least_91 (by decide) (fun c_50 => ?_) (fun c_50 => ?_)
                  · have fc_50 : wn.toInt ≤ i_85.toInt := zf_le c_50 rfl rfl
                    refine lv_iload hx hb dX5_least_135 (lv_at hl 3 rfl) ?_
                    refine lv_if_eq (tgt := 149) hx hb dX5_least_137 (by decide) (fun c_51 => ?_) (fun c_51 => ?_)
                    · exact absurd c_51 (by decide)
                    · refine lv_aload_n hx hb dX5_least_140 rfl (lv_at hl 4 rfl) ?_
                      refine va_get (D := D) (ci := 5) (v := .ref wl) (C := RX5) (T := TX5) (N := 7) hx hb hts hi_X5_least_5 hown hK hP 0 rfl rfl 1 (by decide) (hts (.fieldLink RX5 15 "TheLiningsInIt$Ways" "knownLeast" "[I") (List.mem_of_getElem? (i := 2) rfl)) (fun _ h9 => h9) rfl dX5_least_141 ?_
                      refine lv_iload hx hb dX5_least_144 (lv_at hl 2 rfl) ?_
                      refine lv_iload hx hb dX5_least_146 (lv_at hl 1 rfl) ?_
                      refine va_iast hx hb hK hP hD hS 1 0 rfl rfl (zf_in (by omega) (by omega)) dX5_least_148 (fun H locs hP hD hS => ?_)
                      obtain ⟨g_52, hg_52⟩ : ∃ g : Nat → Int32, g = upd g_48 x_43.toNatClampNeg v_49 := ⟨_, rfl⟩
                      rw [← hg_52] at hP hD
                      clear hg_52
                      have h9R := zRe (ws' := [(w0, .inr (5, [.ref wk, .ref wl, .ref wc, .ref wp, .int wn, .int wh, .int wg])), (wl, .inl (cI, 125, .inl g_52)), (wc, .inl (cI, 3, .inl fc)), (wp, .inl (cP, 8, .inr (.inr (.inr (.inr fp)))))]) hP hD rfl
                      clear hP hD
                      obtain ⟨hP, hD⟩ := h9R
                      refine lv_iload hx hb dX5_least_149 (lv_at hl 1 rfl) ?_
                      exact W.iret (v := v_49) hx hb hr (fun t ht hW => ⟨⟨v_49, g_52, rfl, trivial, zRet ht hP hD [0, 1, 2, 3] (by decide) rfl⟩, hS.F ht⟩) hS.2.2 dX5_least_151
                  · exfalso; have fc_50 : i_85.toInt < wn.toInt := zf_nle c_50 rfl rfl; omega
                | succ nfu ih =>
                  intro i_85 v_49 g_48 H locs ls hP hD hS hl hloi_85 hni_85
                  refine lv_iload hx hb dX5_least_85 (lv_at hl 0 rfl) ?_
                  refine lv_aload_n hx hb dX5_least_87 rfl (lv_at hl 4 rfl) ?_
                  refine va_get (D := D) (ci := 5) (v := .int wn) (C := RX5) (T := TX5) (N := 7) hx hb hts hi_X5_least_5 hown hK hP 0 rfl rfl 4 (by decide) (hts (.fieldLink RX5 27 "TheLiningsInIt$Ways" "count" "I") (List.mem_of_getElem? (i := 3) rfl)) (fun _ h9 => h9) rfl dX5_least_88 ?_
                  refine lv_icmp_ge (tgt := 135) hx hb dX5_least_91 (by decide) (fun c_53 => ?_) (fun c_53 => ?_)
                  · have fc_53 : wn.toInt ≤ i_85.toInt := zf_le c_53 rfl rfl
                    refine lv_iload hx hb dX5_least_135 (lv_at hl 3 rfl) ?_
                    refine lv_if_eq (tgt := 149) hx hb dX5_least_137 (by decide) (fun c_54 => ?_) (fun c_54 => ?_)
                    · exact absurd c_54 (by decide)
                    · refine lv_aload_n hx hb dX5_least_140 rfl (lv_at hl 4 rfl) ?_
                      refine va_get (D := D) (ci := 5) (v := .ref wl) (C := RX5) (T := TX5) (N := 7) hx hb hts hi_X5_least_5 hown hK hP 0 rfl rfl 1 (by decide) (hts (.fieldLink RX5 15 "TheLiningsInIt$Ways" "knownLeast" "[I") (List.mem_of_getElem? (i := 2) rfl)) (fun _ h9 => h9) rfl dX5_least_141 ?_
                      refine lv_iload hx hb dX5_least_144 (lv_at hl 2 rfl) ?_
                      refine lv_iload hx hb dX5_least_146 (lv_at hl 1 rfl) ?_
                      refine va_iast hx hb hK hP hD hS 1 0 rfl rfl (zf_in (by omega) (by omega)) dX5_least_148 (fun H locs hP hD hS => ?_)
                      obtain ⟨g_55, hg_55⟩ : ∃ g : Nat → Int32, g = upd g_48 x_43.toNatClampNeg v_49 := ⟨_, rfl⟩
                      rw [← hg_55] at hP hD
                      clear hg_55
                      have h9R := zRe (ws' := [(w0, .inr (5, [.ref wk, .ref wl, .ref wc, .ref wp, .int wn, .int wh, .int wg])), (wl, .inl (cI, 125, .inl g_55)), (wc, .inl (cI, 3, .inl fc)), (wp, .inl (cP, 8, .inr (.inr (.inr (.inr fp)))))]) hP hD rfl
                      clear hP hD
                      obtain ⟨hP, hD⟩ := h9R
                      refine lv_iload hx hb dX5_least_149 (lv_at hl 1 rfl) ?_
                      exact W.iret (v := v_49) hx hb hr (fun t ht hW => ⟨⟨v_49, g_55, rfl, trivial, zRet ht hP hD [0, 1, 2, 3] (by decide) rfl⟩, hS.F ht⟩) hS.2.2 dX5_least_151
                  · have fc_53 : i_85.toInt < wn.toInt := zf_nle c_53 rfl rfl
                    refine lv_iload_n hx hb dX5_least_94 rfl (lv_at hl 5 rfl) ?_
                    refine lv_if_le (tgt := 135) hx hb dX5_least_95 (by decide) (fun c_56 => ?_) (fun c_56 => ?_)
                    · exact absurd c_56 (by decide)
                    · refine lv_aload_n hx hb dX5_least_98 rfl (lv_at hl 4 rfl) ?_
                      refine lv_iload hx hb dX5_least_99 (lv_at hl 0 rfl) ?_
                      refine lv_iload_n hx hb dX5_least_101 rfl (lv_at hl 6 rfl) ?_
                      refine lv_iload_n hx hb dX5_least_102 rfl (lv_at hl 7 rfl) ?_
                      refine zc_Vq (As := [.int i_85, .int d, .int sec]) (rest := []) ⟨hx, hb, hml, hown, hts⟩ (c_W_mayBeAt l D cI cJ cZ cP cS po w0 wk wl wc wp (wn) (wh) (wg) fp (i_85) (d) (sec) hy0 hy1 hy2 hy3 hy4 hy5 hwp) (cwV 3 hts gX5_least_X5_mayBeAt rfl rfl rfl ⟨rfl, dh_X5_mayBeAt⟩ ⟨Nat.le_of_ble_eq_true rfl, Nat.le_of_ble_eq_true rfl⟩) hK hN (hZ.kept hS) hP (hP.sub [0, 3] rfl) (va_recv (q := (RX5, TX5, 7)) hK hP (ci := 5) (q0 := 0) rfl rfl) rfl hl.1 rfl (Nat.le_of_ble_eq_true rfl) dX5_least_103 ⟨Nat.le_of_ble_eq_true rfl, Nat.le_of_ble_eq_true rfl⟩ (fun r_57 hr_57 => ?_)
                      rcases hr_57 with ⟨rfl, g_58⟩ | ⟨rfl, g_59, g_60⟩ | ⟨rfl, g_61, g_62⟩ | ⟨rfl, g_63, g_64, g_65⟩ | ⟨rfl, g_66, g_67, g_68⟩ | ⟨⟨u_72, kiu_72, au_72, tu_72, rfl, huu_72⟩, g_69, g_70, g_71⟩
                      · exfalso; omega
                      · exfalso; omega
                      · refine lv_astoreN (lv' := [(8, .null), (7, .int i_85), (6, .int v_49), (5, .int x_43), (4, .int 1), (0, .ref w0), (1, .int 1), (2, .int d), (3, .int sec)]) hx hb dX5_least_106 hl (by decide) rfl (fun ls hl => ?_)
                        refine lv_aloadN hx hb dX5_least_108 (lv_at hl 0 rfl) ?_
                        refine lv_ifnullN (tgt := 129) hx hb dX5_least_110 (by decide) ?_
                        obtain ⟨x_73, ex_73⟩ : ∃ y : Int32, y = i_85 + 1 := ⟨_, rfl⟩
                        have qx_73 : x_73.toInt = i_85.toInt + 1 := dw_inc ex_73 fc_53
                        refine lv_iinc (v := x_73) (lv' := [(7, .int x_73), (8, .null), (6, .int v_49), (5, .int x_43), (4, .int 1), (0, .ref w0), (1, .int 1), (2, .int d), (3, .int sec)]) hx hb dX5_least_129 hl (k := 1) rfl ex_73.symm (by decide) rfl (fun ls hl => ?_)
                        refine lv_goto (tgt := 85) hx hb dX5_least_132 (by decide) ?_
                        exact ih x_73 v_49 (g_48) _ _ _ (hP.sub [0, 1, 2, 3] rfl) (hD.sub [0, 1, 2, 3] (by decide) rfl) hS (lv_sub hl [0, 2, 3, 4, 5, 6, 7, 8] rfl) (dw_lo hloi_85 qx_73) (dw_hn hni_85 qx_73)
                      · exfalso; omega
                      · refine lv_astoreN (lv' := [(8, .null), (7, .int i_85), (6, .int v_49), (5, .int x_43), (4, .int 1), (0, .ref w0), (1, .int 1), (2, .int d), (3, .int sec)]) hx hb dX5_least_106 hl (by decide) rfl (fun ls hl => ?_)
                        refine lv_aloadN hx hb dX5_least_108 (lv_at hl 0 rfl) ?_
                        refine lv_ifnullN (tgt := 129) hx hb dX5_least_110 (by decide) ?_
                        obtain ⟨x_74, ex_74⟩ : ∃ y : Int32, y = i_85 + 1 := ⟨_, rfl⟩
                        have qx_74 : x_74.toInt = i_85.toInt + 1 := dw_inc ex_74 fc_53
                        refine lv_iinc (v := x_74) (lv' := [(7, .int x_74), (8, .null), (6, .int v_49), (5, .int x_43), (4, .int 1), (0, .ref w0), (1, .int 1), (2, .int d), (3, .int sec)]) hx hb dX5_least_129 hl (k := 1) rfl ex_74.symm (by decide) rfl (fun ls hl => ?_)
                        refine lv_goto (tgt := 85) hx hb dX5_least_132 (by decide) ?_
                        exact ih x_74 v_49 (g_48) _ _ _ (hP.sub [0, 1, 2, 3] rfl) (hD.sub [0, 1, 2, 3] (by decide) rfl) hS (lv_sub hl [0, 2, 3, 4, 5, 6, 7, 8] rfl) (dw_lo hloi_85 qx_74) (dw_hn hni_85 qx_74)
                      · refine W.eq (g2 := F0 m 106 ls (.ref u_72 :: [])) rfl ?_
                        obtain ⟨hku_72, hau_72, htu_72⟩ := zPu_pr (hZ.kept hS) huu_72
                        refine lv_astore (lv' := [(8, .ref u_72), (7, .int i_85), (6, .int v_49), (5, .int x_43), (4, .int 1), (0, .ref w0), (1, .int 1), (2, .int d), (3, .int sec)]) hx hb dX5_least_106 hl (by decide) rfl (fun ls hl => ?_)
                        refine lv_aload hx hb dX5_least_108 (lv_at hl 0 rfl) ?_
                        refine lv_ifnull hx hb dX5_least_110 ?_
                        refine lv_iload hx hb dX5_least_113 (lv_at hl 2 rfl) ?_
                        refine lv_aload_n hx hb dX5_least_115 rfl (lv_at hl 5 rfl) ?_
                        refine lv_aload hx hb dX5_least_116 (lv_at hl 0 rfl) ?_
                        refine lv_iload_n hx hb dX5_least_118 rfl (lv_at hl 6 rfl) ?_
                        refine lv_iload_n hx hb dX5_least_119 rfl (lv_at hl 7 rfl) ?_
                        refine lv_iload_n hx hb dX5_least_120 rfl (lv_at hl 8 rfl) ?_
                        skip
                        refine zw_V (As := [.ref u_72, .int 1, .int d, .int sec]) (rest := [.int v_49]) (wr := []) ⟨hx, hb, hml, hown, hts⟩ (c_W_leastBy_1 l D cI cJ cZ cP cS po w0 wk wl wc wp (wn) (wh) (wg) fp g_48 fc (d) (sec) u_72 (kiu_72) (au_72) (tu_72) huu_72 ⟨by omega, by omega, by omega, by omega⟩ hy0 hy1 hy2 hy3 hy4 hy5 hwp hy7 hy8 hp_fc H.size) (cwV 4 hts gX5_least_X5_leastBy rfl rfl rfl ⟨rfl, dh_X5_leastBy⟩ ⟨Nat.le_of_ble_eq_true rfl, Nat.le_of_ble_eq_true rfl⟩) hK hN (hZ.kept hS) hP hD hS hA [0, 1, 2, 3] [] rfl rfl (by decide) (by decide) (by decide) (va_recv (q := (RX5, TX5, 7)) hK hP (ci := 5) (q0 := 0) rfl rfl) rfl hl.1 rfl (Nat.le_of_ble_eq_true rfl) dX5_least_121 ⟨Nat.le_of_ble_eq_true rfl, Nat.le_of_ble_eq_true rfl⟩ (fun r_75 u_76 H locs hr_75 hP hD hS => ?_)
                        obtain ⟨q_77, rfl⟩ : ∃ z, z = u_76 := ⟨_, rfl⟩
                        have h9R := zRe (ws' := [(w0, .inr (5, [.ref wk, .ref wl, .ref wc, .ref wp, .int wn, .int wh, .int wg])), (wl, .inl (cI, 125, .inl q_77)), (wc, .inl (cI, 3, .inl fc)), (wp, .inl (cP, 8, .inr (.inr (.inr (.inr fp)))))]) hP hD rfl
                        clear hP hD
                        obtain ⟨hP, hD⟩ := h9R
                        refine va_mmin hx hb (hml.trans hl.1.symm) hown (hts (.methodLink RX5 110 Lib.Math.min.name) (List.mem_of_getElem? (i := 4) rfl)) (hts _ (List.mem_of_getElem? (i := 5) rfl)) (hts _ (List.mem_of_getElem? (i := 6) rfl)) (hts _ (List.mem_of_getElem? (i := 7) rfl)) (Nat.le_of_ble_eq_true rfl) (Nat.le_of_ble_eq_true rfl) (Nat.le_of_ble_eq_true rfl) (Nat.le_of_ble_eq_true rfl) dX5_least_124 ?_
                        refine lv_topi (fun x_78 ex_78 => ?_)
                        have qx_78 := zf_min ex_78 (x1 := v_49.toInt) (y1 := r_75.toInt) rfl rfl
                        refine lv_istore (lv' := [(6, .int x_78), (8, .ref u_72), (7, .int i_85), (5, .int x_43), (4, .int 1), (0, .ref w0), (1, .int 1), (2, .int d), (3, .int sec)]) hx hb dX5_least_127 hl (by decide) rfl (fun ls hl => ?_)
                        obtain ⟨x_79, ex_79⟩ : ∃ y : Int32, y = i_85 + 1 := ⟨_, rfl⟩
                        have qx_79 : x_79.toInt = i_85.toInt + 1 := dw_inc ex_79 fc_53
                        refine lv_iinc (v := x_79) (lv' := [(7, .int x_79), (6, .int x_78), (8, .ref u_72), (5, .int x_43), (4, .int 1), (0, .ref w0), (1, .int 1), (2, .int d), (3, .int sec)]) hx hb dX5_least_129 hl (k := 2) rfl ex_79.symm (by decide) rfl (fun ls hl => ?_)
                        refine lv_goto (tgt := 85) hx hb dX5_least_132 (by decide) ?_
                        exact ih x_79 x_78 (q_77) _ _ _ (hP.sub [0, 1, 2, 3] rfl) (hD.sub [0, 1, 2, 3] (by decide) rfl) hS (lv_sub hl [0, 1, 3, 4, 5, 6, 7, 8] rfl) (dw_lo hloi_85 qx_79) (dw_hn hni_85 qx_79)
              · have fc_46 : x_45.toInt ≠ (-1) := zf_ne c_46 rfl (by decide)
                refine lv_aload_n hx hb dX5_least_66 rfl (lv_at hl 2 rfl) ?_
                refine va_get (D := D) (ci := 5) (v := .ref wl) (C := RX5) (T := TX5) (N := 7) hx hb hts hi_X5_least_5 hown hK hP 0 rfl rfl 1 (by decide) (hts (.fieldLink RX5 15 "TheLiningsInIt$Ways" "knownLeast" "[I") (List.mem_of_getElem? (i := 2) rfl)) (fun _ h9 => h9) rfl dX5_least_67 ?_
                refine lv_iload hx hb dX5_least_70 (lv_at hl 0 rfl) ?_
                refine va_iald hx hb hK hP 1 0 rfl rfl (zf_in (by omega) (by omega)) dX5_least_72 ?_
                refine lv_topi (fun x_80 ex_80 => ?_)
                exact W.iret (v := x_80) hx hb hr (fun t ht hW => ⟨⟨x_80, fl, rfl, trivial, zRet ht hP hD [0, 1, 2, 3] (by decide) rfl⟩, hS.F ht⟩) hS.2.2 dX5_least_73
        · exfalso; have fc_4 : 24 < d.toInt := zf_nle c_4 rfl (by decide); omega
set_option maxHeartbeats 4000000 in
set_option maxRecDepth 100000 in
theorem c_W_leastBy_2 (l : Launch) (D : va_G) (cI cJ cZ cP cS : ClassId) (po : zPool) (w0 wk wl wc wp : Nat) (wn wh wg : Int32) (fp : Nat → Option Nat) (fl fc : Nat → Int32) (d sec : Int32) (u0 : Nat) (ki a_ ta : Int32) (hu_u0 : zPu po u0 ki a_ ta) (hr_u0 : zPr ki a_ ta) (hy2 : 0 ≤ wn.toInt) (hy3 : wn.toInt ≤ 8) (hy4 : 0 ≤ wh.toInt) (hy5 : wh.toInt ≤ 9) (hy6 : 0 ≤ wg.toInt) (hy7 : wg.toInt ≤ 60) (hwp : zWP po fp) (hy9 : 0 ≤ d.toInt) (hy10 : d.toInt ≤ 24) (hp_fc : zRg fc (0) 99) (hpz : Nat) : Met l yX5_leastBy wsX5_leastBy ({ frames := 5, cells := 0, slots := 0, locals := 126 }) (va_Pc [.ref w0, .ref u0, .int 2, .int d, .int sec] (zW D (zKT cI cJ cZ cP cS) po [(w0, .inr (5, [.ref wk, .ref wl, .ref wc, .ref wp, .int wn, .int wh, .int wg])), (wl, .inl (cI, 125, .inl fl)), (wc, .inl (cI, 3, .inl fc)), (wp, .inl (cP, 8, .inr (.inr (.inr (.inr fp)))))] hpz)) (va_Qi (fun (r : Int32) (fl2 : (Nat → Int32)) => True) (zB D [(w0, .inr (5, [.ref wk, .ref wl, .ref wc, .ref wp, .int wn, .int wh, .int wg])), (wl, .inl (cI, 125, .inl fl)), (wc, .inl (cI, 3, .inl fc)), (wp, .inl (cP, 8, .inr (.inr (.inr (.inr fp)))))] hpz (fun (fl2 : Nat → Int32) => [(w0, .inr (5, [.ref wk, .ref wl, .ref wc, .ref wp, .int wn, .int wh, .int wg])), (wl, .inl (cI, 125, .inl fl2)), (wc, .inl (cI, 3, .inl fc)), (wp, .inl (cP, 8, .inr (.inr (.inr (.inr fp)))))])) (va_A [(w0, .inr (5, [.ref wk, .ref wl, .ref wc, .ref wp, .int wn, .int wh, .int wg])), (wl, .inl (cI, 125, .inl fl)), (wc, .inl (cI, 3, .inl fc)), (wp, .inl (cP, 8, .inr (.inr (.inr (.inr fp)))))] hpz)) 0 0 (va_A [(w0, .inr (5, [.ref wk, .ref wl, .ref wc, .ref wp, .int wn, .int wh, .int wg])), (wl, .inl (cI, 125, .inl fl)), (wc, .inl (cI, 3, .inl fc)), (wp, .inl (cP, 8, .inr (.inr (.inr (.inr fp)))))] hpz) := by
  refine Met.ofW (cc := cX5_leastBy) (maxL := 8) (ret := (some .int)) (by decide) rfl ?_
  intro p e s m args below meth c s₁ B hml hv
  obtain ⟨rfl, hsz, hP, hK, hD0, hN, hZ⟩ := hv
  have hx := B.exec
  have hb := B.bytes
  have hr := B.returns
  have hts := atoms_spec (ws := wsX5_leastBy) B.pre
  have hown : s.vm.findClass RX5 = some m.cls := findClass_of_methodNamed B.named
  have hlocks := B.notSynchronized
  subst hsz
  have hD := hD0.self (sz := s.heap.size)
  have hA := zA_of hD
  have hl := lv_entry ([.ref w0, .ref u0, .int 2, .int d, .int sec]) (n := 8) (Nat.le_of_ble_eq_true rfl)
  rw [lg_entry_eq]
  generalize (lg_sl ([.ref w0, .ref u0, .int 2, .int d, .int sec]) ++ List.replicate (8 - (lg_sl ([.ref w0, .ref u0, .int 2, .int d, .int sec])).length) Slot.unset).toArray = ls at hl ⊢
  replace hl : lv_has ls 8 [(0, .ref w0), (1, .ref u0), (2, .int 2), (3, .int d), (4, .int sec)] := hl
  refine zw_begin hP hD (fun H locs hP1 hS => ?_)
  clear hP
  have hP := hP1
  clear hP1
  obtain ⟨⟨p1_u0, p2_u0⟩, ⟨p3_u0, p4_u0⟩, p5_u0, p6_u0⟩ := id hr_u0
  refine lv_aload_n hx hb dX5_leastBy_0 rfl (lv_at hl 1 rfl) ?_
  refine lv_iload_n hx hb dX5_leastBy_1 rfl (lv_at hl 3 rfl) ?_
  refine lv_aload_n hx hb dX5_leastBy_2 rfl (lv_at hl 0 rfl) ?_
  refine va_get (D := D) (ci := 5) (v := .int wh) (C := RX5) (T := TX5) (N := 7) hx hb hts hi_X5_leastBy_5 hown hK hP 0 rfl rfl 5 (by decide) (hts (.fieldLink RX5 31 "TheLiningsInIt$Ways" "hurry" "I") (List.mem_of_getElem? (i := 1) rfl)) (fun _ h9 => h9) rfl dX5_leastBy_3 ?_
  refine zc_V (As := [.int d, .int wh]) (rest := []) ⟨hx, hb, hml, hown, hts⟩ (c_Pull_waysAt l D cI cJ cZ cP cS po (d) (wh) u0 (ki) (a_) (ta) hu_u0 ⟨by omega, by omega, by omega, by omega⟩ hy9 hy10 hy4 hy5) (cwV 2 hts gX5_leastBy_X2_waysAt rfl rfl rfl ⟨rfl, dh_X2_waysAt⟩ ⟨Nat.le_of_ble_eq_true rfl, Nat.le_of_ble_eq_true rfl⟩) hK hN (hZ.kept hS) hP zP_nil (va_recv (q := (RX2, TX2, 3)) hK (zPu_P (hZ.kept hS) hu_u0) (ci := 2) (q0 := 0) rfl rfl) rfl hl.1 rfl (Nat.le_of_ble_eq_true rfl) dX5_leastBy_6 ⟨Nat.le_of_ble_eq_true rfl, Nat.le_of_ble_eq_true rfl⟩ (fun r_1 hr_1 => ?_)
  obtain ⟨g_2, g_3⟩ := hr_1
  refine lv_istore (lv' := [(5, .int r_1), (0, .ref w0), (1, .ref u0), (2, .int 2), (3, .int d), (4, .int sec)]) hx hb dX5_leastBy_9 hl (by decide) rfl (fun ls hl => ?_)
  refine lv_iload hx hb dX5_leastBy_11 (lv_at hl 5 rfl) ?_
  refine lv_aload_n hx hb dX5_leastBy_13 rfl (lv_at hl 2 rfl) ?_
  refine va_get (D := D) (ci := 2) (v := .int ta) (C := RX2) (T := TX2) (N := 3) hx hb hts hi_X5_leastBy_2 hown hK (zPu_P (hZ.kept hS) hu_u0) 0 rfl rfl 2 (by decide) (hts (.fieldLink RX5 49 "TheLiningsInIt$Pull" "takes" "I") (List.mem_of_getElem? (i := 2) rfl)) (fun _ h9 => h9) rfl dX5_leastBy_14 ?_
  refine lv_isub hx hb dX5_leastBy_17 ?_
  refine lv_topi (fun x_4 ex_4 => ?_)
  refine lv_istore (lv' := [(6, .int x_4), (5, .int r_1), (0, .ref w0), (1, .ref u0), (2, .int 2), (3, .int d), (4, .int sec)]) hx hb dX5_leastBy_18 hl (by decide) rfl (fun ls hl => ?_)
  refine lv_aload_n hx hb dX5_leastBy_20 rfl (lv_at hl 3 rfl) ?_
  refine va_get (D := D) (ci := 2) (v := .int ki) (C := RX2) (T := TX2) (N := 3) hx hb hts hi_X5_leastBy_2 hown hK (zPu_P (hZ.kept hS) hu_u0) 0 rfl rfl 0 (by decide) (hts (.fieldLink RX5 46 "TheLiningsInIt$Pull" "kind" "I") (List.mem_of_getElem? (i := 3) rfl)) (fun _ h9 => h9) rfl dX5_leastBy_21 ?_
  refine lv_iconst (v := 5) hx hb dX5_leastBy_24 (by decide) ?_
  refine lv_icmp_ne (tgt := 43) hx hb dX5_leastBy_25 (by decide) (fun c_5 => ?_) (fun c_5 => ?_)
  · have fc_5 : ki.toInt ≠ 5 := zf_ne c_5 rfl (by decide)
    refine lv_iconst (v := 0) hx hb dX5_leastBy_43 (by decide) ?_
    refine lv_istore (lv' := [(7, .int 0), (6, .int x_4), (5, .int r_1), (0, .ref w0), (1, .ref u0), (2, .int 2), (3, .int d), (4, .int sec)]) hx hb dX5_leastBy_44 hl (by decide) rfl (fun ls hl => ?_)
    refine lv_iload hx hb dX5_leastBy_46 (lv_at hl 2 rfl) ?_
    refine lv_if_le (tgt := 73) hx hb dX5_leastBy_48 (by decide) (fun c_6 => ?_) (fun c_6 => ?_)
    · have fc_6 : r_1.toInt ≤ 0 := zf_le c_6 rfl (by decide)
      refine lv_iload hx hb dX5_leastBy_73 (lv_at hl 2 rfl) ?_
      refine lv_bipush (v := 12) hx hb dX5_leastBy_75 (by decide) ?_
      refine lv_icmp_ge (tgt := 109) hx hb dX5_leastBy_77 (by decide) (fun c_7 => ?_) (fun c_7 => ?_)
      · exfalso; have fc_7 : 12 ≤ r_1.toInt := zf_le c_7 (by decide) rfl; omega
      · have fc_7 : r_1.toInt < 12 := zf_nle c_7 (by decide) rfl
        refine lv_iload hx hb dX5_leastBy_80 (lv_at hl 0 rfl) ?_
        refine lv_bipush (v := 12) hx hb dX5_leastBy_82 (by decide) ?_
        refine lv_iload hx hb dX5_leastBy_84 (lv_at hl 2 rfl) ?_
        refine lv_isub hx hb dX5_leastBy_86 ?_
        refine lv_topi (fun x_8 ex_8 => ?_)
        have qx_8 : x_8.toInt = 12 - r_1.toInt := by rw [ex_8]; exact zf_sub (by decide) rfl (by omega) (by omega)
        refine lv_aload_n hx hb dX5_leastBy_87 rfl (lv_at hl 3 rfl) ?_
        refine lv_iload_n hx hb dX5_leastBy_88 rfl (lv_at hl 5 rfl) ?_
        refine lv_iconst (v := 1) hx hb dX5_leastBy_89 (by decide) ?_
        refine lv_isub hx hb dX5_leastBy_90 ?_
        refine lv_topi (fun y_9 ey_9 => ?_)
        obtain rfl : y_9 = 1 := ey_9.trans (by decide)
        refine lv_aload_n hx hb dX5_leastBy_91 rfl (lv_at hl 4 rfl) ?_
        refine lv_iload_n hx hb dX5_leastBy_92 rfl (lv_at hl 6 rfl) ?_
        refine lv_aload_n hx hb dX5_leastBy_93 rfl (lv_at hl 3 rfl) ?_
        refine va_get (D := D) (ci := 5) (v := .int wh) (C := RX5) (T := TX5) (N := 7) hx hb hts hi_X5_leastBy_5 hown hK hP 0 rfl rfl 5 (by decide) (hts (.fieldLink RX5 31 "TheLiningsInIt$Ways" "hurry" "I") (List.mem_of_getElem? (i := 1) rfl)) (fun _ h9 => h9) rfl dX5_leastBy_94 ?_
        refine zc_V (As := [.int d, .int wh]) (rest := [.int 1, .ref w0, .int x_8, .int 0]) ⟨hx, hb, hml, hown, hts⟩ (c_Pull_deeper l D cI cJ cZ cP cS po (d) (wh) u0 (ki) (a_) (ta) hu_u0 ⟨by omega, by omega, by omega, by omega⟩ hy9 hy10 hy4 hy5) (cwV 2 hts gX5_leastBy_X2_deeper rfl rfl rfl ⟨rfl, dh_X2_deeper⟩ ⟨Nat.le_of_ble_eq_true rfl, Nat.le_of_ble_eq_true rfl⟩) hK hN (hZ.kept hS) hP zP_nil (va_recv (q := (RX2, TX2, 3)) hK (zPu_P (hZ.kept hS) hu_u0) (ci := 2) (q0 := 0) rfl rfl) rfl hl.1 rfl (Nat.le_of_ble_eq_true rfl) dX5_leastBy_97 ⟨Nat.le_of_ble_eq_true rfl, Nat.le_of_ble_eq_true rfl⟩ (fun r_10 hr_10 => ?_)
        obtain ⟨g_11, g_12⟩ := hr_10
        refine lv_iload hx hb dX5_leastBy_100 (lv_at hl 1 rfl) ?_
        skip
        refine zw_V (As := [.int 1, .int r_10, .int x_4]) (rest := [.int x_8, .int 0]) (wr := []) ⟨hx, hb, hml, hown, hts⟩ (c_W_least_1 l D cI cJ cZ cP cS po w0 wk wl wc wp (wn) (wh) (wg) fp fl fc (r_10) (x_4) hy2 hy3 hy4 hy5 hy6 hy7 hwp (by omega) (by omega) hp_fc H.size) (cwV 3 hts gX5_leastBy_X5_least rfl rfl rfl ⟨rfl, dh_X5_least⟩ ⟨Nat.le_of_ble_eq_true rfl, Nat.le_of_ble_eq_true rfl⟩) hK hN (hZ.kept hS) hP hD hS hA [0, 1, 2, 3] [] rfl rfl (by decide) (by decide) (by decide) (va_recv (q := (RX5, TX5, 7)) hK hP (ci := 5) (q0 := 0) rfl rfl) rfl hl.1 rfl (Nat.le_of_ble_eq_true rfl) dX5_leastBy_102 ⟨Nat.le_of_ble_eq_true rfl, Nat.le_of_ble_eq_true rfl⟩ (fun r_13 u_14 H locs hr_13 hP hD hS => ?_)
        obtain ⟨q_15, rfl⟩ : ∃ z, z = u_14 := ⟨_, rfl⟩
        have h9R := zRe (ws' := [(w0, .inr (5, [.ref wk, .ref wl, .ref wc, .ref wp, .int wn, .int wh, .int wg])), (wl, .inl (cI, 125, .inl q_15)), (wc, .inl (cI, 3, .inl fc)), (wp, .inl (cP, 8, .inr (.inr (.inr (.inr fp)))))]) hP hD rfl
        clear hP hD
        obtain ⟨hP, hD⟩ := h9R
        refine lv_imul hx hb dX5_leastBy_105 ?_
        refine lv_topi (fun x_16 ex_16 => ?_)
        refine lv_iadd hx hb dX5_leastBy_106 ?_
        refine lv_topi (fun x_17 ex_17 => ?_)
        have rbx_17 := zf_rng x_16
        have qx_17 : x_17.toInt = 0 + x_16.toInt := by rw [ex_17]; exact zf_add (by decide) rfl (by omega) (by omega)
        refine lv_istore (lv' := [(7, .int x_17), (6, .int x_4), (5, .int r_1), (0, .ref w0), (1, .ref u0), (2, .int 2), (3, .int d), (4, .int sec)]) hx hb dX5_leastBy_107 hl (by decide) rfl (fun ls hl => ?_)
        refine lv_iload hx hb dX5_leastBy_109 (lv_at hl 0 rfl) ?_
        exact W.iret (v := x_17) hx hb hr (fun t ht hW => ⟨⟨x_17, q_15, rfl, trivial, zRet ht hP hD [0, 1, 2, 3] (by decide) rfl⟩, hS.F ht⟩) hS.2.2 dX5_leastBy_111
    · have fc_6 : 0 < r_1.toInt := zf_nle c_6 rfl (by decide)
      refine lv_iload hx hb dX5_leastBy_51 (lv_at hl 0 rfl) ?_
      refine lv_iload hx hb dX5_leastBy_53 (lv_at hl 2 rfl) ?_
      refine lv_aload_n hx hb dX5_leastBy_55 rfl (lv_at hl 3 rfl) ?_
      refine lv_iload_n hx hb dX5_leastBy_56 rfl (lv_at hl 5 rfl) ?_
      refine lv_iconst (v := 1) hx hb dX5_leastBy_57 (by decide) ?_
      refine lv_isub hx hb dX5_leastBy_58 ?_
      refine lv_topi (fun y_18 ey_18 => ?_)
      obtain rfl : y_18 = 1 := ey_18.trans (by decide)
      refine lv_aload_n hx hb dX5_leastBy_59 rfl (lv_at hl 4 rfl) ?_
      refine lv_iload_n hx hb dX5_leastBy_60 rfl (lv_at hl 6 rfl) ?_
      refine zc_V (As := [.int d]) (rest := [.int 1, .ref w0, .int r_1, .int 0]) ⟨hx, hb, hml, hown, hts⟩ (c_Pull_shallower l D cI cJ cZ cP cS po (d) u0 (ki) (a_) (ta) hu_u0 ⟨by omega, by omega, by omega, by omega⟩ hy9 hy10) (cwV 1 hts gX5_leastBy_X2_shallower rfl rfl rfl ⟨rfl, dh_X2_shallower⟩ ⟨Nat.le_of_ble_eq_true rfl, Nat.le_of_ble_eq_true rfl⟩) hK hN (hZ.kept hS) hP zP_nil (va_recv (q := (RX2, TX2, 3)) hK (zPu_P (hZ.kept hS) hu_u0) (ci := 2) (q0 := 0) rfl rfl) rfl hl.1 rfl (Nat.le_of_ble_eq_true rfl) dX5_leastBy_61 ⟨Nat.le_of_ble_eq_true rfl, Nat.le_of_ble_eq_true rfl⟩ (fun r_19 hr_19 => ?_)
      obtain ⟨g_20, g_21⟩ := hr_19
      refine lv_iload hx hb dX5_leastBy_64 (lv_at hl 1 rfl) ?_
      skip
      refine zw_V (As := [.int 1, .int r_19, .int x_4]) (rest := [.int r_1, .int 0]) (wr := []) ⟨hx, hb, hml, hown, hts⟩ (c_W_least_1 l D cI cJ cZ cP cS po w0 wk wl wc wp (wn) (wh) (wg) fp fl fc (r_19) (x_4) hy2 hy3 hy4 hy5 hy6 hy7 hwp (by omega) (by omega) hp_fc H.size) (cwV 3 hts gX5_leastBy_X5_least rfl rfl rfl ⟨rfl, dh_X5_least⟩ ⟨Nat.le_of_ble_eq_true rfl, Nat.le_of_ble_eq_true rfl⟩) hK hN (hZ.kept hS) hP hD hS hA [0, 1, 2, 3] [] rfl rfl (by decide) (by decide) (by decide) (va_recv (q := (RX5, TX5, 7)) hK hP (ci := 5) (q0 := 0) rfl rfl) rfl hl.1 rfl (Nat.le_of_ble_eq_true rfl) dX5_leastBy_66 ⟨Nat.le_of_ble_eq_true rfl, Nat.le_of_ble_eq_true rfl⟩ (fun r_22 u_23 H locs hr_22 hP hD hS => ?_)
      obtain ⟨q_24, rfl⟩ : ∃ z, z = u_23 := ⟨_, rfl⟩
      have h9R := zRe (ws' := [(w0, .inr (5, [.ref wk, .ref wl, .ref wc, .ref wp, .int wn, .int wh, .int wg])), (wl, .inl (cI, 125, .inl q_24)), (wc, .inl (cI, 3, .inl fc)), (wp, .inl (cP, 8, .inr (.inr (.inr (.inr fp)))))]) hP hD rfl
      clear hP hD
      obtain ⟨hP, hD⟩ := h9R
      refine lv_imul hx hb dX5_leastBy_69 ?_
      refine lv_topi (fun x_25 ex_25 => ?_)
      refine lv_iadd hx hb dX5_leastBy_70 ?_
      refine lv_topi (fun x_26 ex_26 => ?_)
      have rbx_26 := zf_rng x_25
      have qx_26 : x_26.toInt = 0 + x_25.toInt := by rw [ex_26]; exact zf_add (by decide) rfl (by omega) (by omega)
      refine lv_istore (lv' := [(7, .int x_26), (6, .int x_4), (5, .int r_1), (0, .ref w0), (1, .ref u0), (2, .int 2), (3, .int d), (4, .int sec)]) hx hb dX5_leastBy_71 hl (by decide) rfl (fun ls hl => ?_)
      refine lv_iload hx hb dX5_leastBy_73 (lv_at hl 2 rfl) ?_
      refine lv_bipush (v := 12) hx hb dX5_leastBy_75 (by decide) ?_
      refine lv_icmp_ge (tgt := 109) hx hb dX5_leastBy_77 (by decide) (fun c_27 => ?_) (fun c_27 => ?_)
      · have fc_27 : 12 ≤ r_1.toInt := zf_le c_27 (by decide) rfl
        refine lv_iload hx hb dX5_leastBy_109 (lv_at hl 0 rfl) ?_
        exact W.iret (v := x_26) hx hb hr (fun t ht hW => ⟨⟨x_26, q_24, rfl, trivial, zRet ht hP hD [0, 1, 2, 3] (by decide) rfl⟩, hS.F ht⟩) hS.2.2 dX5_leastBy_111
      · have fc_27 : r_1.toInt < 12 := zf_nle c_27 (by decide) rfl
        refine lv_iload hx hb dX5_leastBy_80 (lv_at hl 0 rfl) ?_
        refine lv_bipush (v := 12) hx hb dX5_leastBy_82 (by decide) ?_
        refine lv_iload hx hb dX5_leastBy_84 (lv_at hl 2 rfl) ?_
        refine lv_isub hx hb dX5_leastBy_86 ?_
        refine lv_topi (fun x_28 ex_28 => ?_)
        have qx_28 : x_28.toInt = 12 - r_1.toInt := by rw [ex_28]; exact zf_sub (by decide) rfl (by omega) (by omega)
        refine lv_aload_n hx hb dX5_leastBy_87 rfl (lv_at hl 3 rfl) ?_
        refine lv_iload_n hx hb dX5_leastBy_88 rfl (lv_at hl 5 rfl) ?_
        refine lv_iconst (v := 1) hx hb dX5_leastBy_89 (by decide) ?_
        refine lv_isub hx hb dX5_leastBy_90 ?_
        refine lv_topi (fun y_29 ey_29 => ?_)
        obtain rfl : y_29 = 1 := ey_29.trans (by decide)
        refine lv_aload_n hx hb dX5_leastBy_91 rfl (lv_at hl 4 rfl) ?_
        refine lv_iload_n hx hb dX5_leastBy_92 rfl (lv_at hl 6 rfl) ?_
        refine lv_aload_n hx hb dX5_leastBy_93 rfl (lv_at hl 3 rfl) ?_
        refine va_get (D := D) (ci := 5) (v := .int wh) (C := RX5) (T := TX5) (N := 7) hx hb hts hi_X5_leastBy_5 hown hK hP 0 rfl rfl 5 (by decide) (hts (.fieldLink RX5 31 "TheLiningsInIt$Ways" "hurry" "I") (List.mem_of_getElem? (i := 1) rfl)) (fun _ h9 => h9) rfl dX5_leastBy_94 ?_
        refine zc_V (As := [.int d, .int wh]) (rest := [.int 1, .ref w0, .int x_28, .int x_26]) ⟨hx, hb, hml, hown, hts⟩ (c_Pull_deeper l D cI cJ cZ cP cS po (d) (wh) u0 (ki) (a_) (ta) hu_u0 ⟨by omega, by omega, by omega, by omega⟩ hy9 hy10 hy4 hy5) (cwV 2 hts gX5_leastBy_X2_deeper rfl rfl rfl ⟨rfl, dh_X2_deeper⟩ ⟨Nat.le_of_ble_eq_true rfl, Nat.le_of_ble_eq_true rfl⟩) hK hN (hZ.kept hS) hP zP_nil (va_recv (q := (RX2, TX2, 3)) hK (zPu_P (hZ.kept hS) hu_u0) (ci := 2) (q0 := 0) rfl rfl) rfl hl.1 rfl (Nat.le_of_ble_eq_true rfl) dX5_leastBy_97 ⟨Nat.le_of_ble_eq_true rfl, Nat.le_of_ble_eq_true rfl⟩ (fun r_30 hr_30 => ?_)
        obtain ⟨g_31, g_32⟩ := hr_30
        refine lv_iload hx hb dX5_leastBy_100 (lv_at hl 1 rfl) ?_
        skip
        refine zw_V (As := [.int 1, .int r_30, .int x_4]) (rest := [.int x_28, .int x_26]) (wr := []) ⟨hx, hb, hml, hown, hts⟩ (c_W_least_1 l D cI cJ cZ cP cS po w0 wk wl wc wp (wn) (wh) (wg) fp q_24 fc (r_30) (x_4) hy2 hy3 hy4 hy5 hy6 hy7 hwp (by omega) (by omega) hp_fc H.size) (cwV 3 hts gX5_leastBy_X5_least rfl rfl rfl ⟨rfl, dh_X5_least⟩ ⟨Nat.le_of_ble_eq_true rfl, Nat.le_of_ble_eq_true rfl⟩) hK hN (hZ.kept hS) hP hD hS hA [0, 1, 2, 3] [] rfl rfl (by decide) (by decide) (by decide) (va_recv (q := (RX5, TX5, 7)) hK hP (ci := 5) (q0 := 0) rfl rfl) rfl hl.1 rfl (Nat.le_of_ble_eq_true rfl) dX5_leastBy_102 ⟨Nat.le_of_ble_eq_true rfl, Nat.le_of_ble_eq_true rfl⟩ (fun r_33 u_34 H locs hr_33 hP hD hS => ?_)
        obtain ⟨q_35, rfl⟩ : ∃ z, z = u_34 := ⟨_, rfl⟩
        have h9R := zRe (ws' := [(w0, .inr (5, [.ref wk, .ref wl, .ref wc, .ref wp, .int wn, .int wh, .int wg])), (wl, .inl (cI, 125, .inl q_35)), (wc, .inl (cI, 3, .inl fc)), (wp, .inl (cP, 8, .inr (.inr (.inr (.inr fp)))))]) hP hD rfl
        clear hP hD
        obtain ⟨hP, hD⟩ := h9R
        refine lv_imul hx hb dX5_leastBy_105 ?_
        refine lv_topi (fun x_36 ex_36 => ?_)
        refine lv_iadd hx hb dX5_leastBy_106 ?_
        refine lv_topi (fun x_37 ex_37 => ?_)
        refine lv_istore (lv' := [(7, .int x_37), (6, .int x_4), (5, .int r_1), (0, .ref w0), (1, .ref u0), (2, .int 2), (3, .int d), (4, .int sec)]) hx hb dX5_leastBy_107 hl (by decide) rfl (fun ls hl => ?_)
        refine lv_iload hx hb dX5_leastBy_109 (lv_at hl 0 rfl) ?_
        exact W.iret (v := x_37) hx hb hr (fun t ht hW => ⟨⟨x_37, q_35, rfl, trivial, zRet ht hP hD [0, 1, 2, 3] (by decide) rfl⟩, hS.F ht⟩) hS.2.2 dX5_leastBy_111
  · have fc_5 : ki.toInt = 5 := zf_eq c_5 rfl (by decide)
    obtain ⟨t_38, zt_38, yt_38⟩ := hZ.1.1
    refine va_gets hx hb zt_38 hS hown (hts (.fieldLink RX5 79 "TheLiningsInIt$Ways" "POWERS" "[I") (List.mem_of_getElem? (i := 4) rfl)) (fun _ h9 => h9) dX5_leastBy_28 ?_
    refine lv_iload_n hx hb dX5_leastBy_31 rfl (lv_at hl 4 rfl) ?_
    refine va_ti hx hb yt_38 hS (zf_in (by decide) (by decide)) (v := .int 144) (by decide) dX5_leastBy_32 ?_
    refine lv_aload_n hx hb dX5_leastBy_33 rfl (lv_at hl 2 rfl) ?_
    refine va_get (D := D) (ci := 5) (v := .ref wc) (C := RX5) (T := TX5) (N := 7) hx hb hts hi_X5_leastBy_5 hown hK hP 0 rfl rfl 2 (by decide) (hts (.fieldLink RX5 18 "TheLiningsInIt$Ways" "costs" "[I") (List.mem_of_getElem? (i := 5) rfl)) (fun _ h9 => h9) rfl dX5_leastBy_34 ?_
    refine lv_iconst (v := 0) hx hb dX5_leastBy_37 (by decide) ?_
    refine va_iald hx hb hK hP 2 0 rfl rfl (zf_in (by decide) (by decide)) dX5_leastBy_38 ?_
    refine lv_topi (fun x_39 ex_39 => ?_)
    have bx_39 : 0 ≤ x_39.toInt ∧ x_39.toInt ≤ 99 := by rw [ex_39]; exact hp_fc _
    refine lv_imul hx hb dX5_leastBy_39 ?_
    refine lv_topi (fun x_40 ex_40 => ?_)
    have qx_40 : x_40.toInt = 144 * x_39.toInt := by rw [ex_40]; exact zf_mul (by decide) rfl (by omega) (by omega)
    refine lv_goto (tgt := 44) hx hb dX5_leastBy_40 (by decide) ?_
    refine lv_istore (lv' := [(7, .int x_40), (6, .int x_4), (5, .int r_1), (0, .ref w0), (1, .ref u0), (2, .int 2), (3, .int d), (4, .int sec)]) hx hb dX5_leastBy_44 hl (by decide) rfl (fun ls hl => ?_)
    refine lv_iload hx hb dX5_leastBy_46 (lv_at hl 2 rfl) ?_
    refine lv_if_le (tgt := 73) hx hb dX5_leastBy_48 (by decide) (fun c_41 => ?_) (fun c_41 => ?_)
    · have fc_41 : r_1.toInt ≤ 0 := zf_le c_41 rfl (by decide)
      refine lv_iload hx hb dX5_leastBy_73 (lv_at hl 2 rfl) ?_
      refine lv_bipush (v := 12) hx hb dX5_leastBy_75 (by decide) ?_
      refine lv_icmp_ge (tgt := 109) hx hb dX5_leastBy_77 (by decide) (fun c_42 => ?_) (fun c_42 => ?_)
      · exfalso; have fc_42 : 12 ≤ r_1.toInt := zf_le c_42 (by decide) rfl; omega
      · have fc_42 : r_1.toInt < 12 := zf_nle c_42 (by decide) rfl
        refine lv_iload hx hb dX5_leastBy_80 (lv_at hl 0 rfl) ?_
        refine lv_bipush (v := 12) hx hb dX5_leastBy_82 (by decide) ?_
        refine lv_iload hx hb dX5_leastBy_84 (lv_at hl 2 rfl) ?_
        refine lv_isub hx hb dX5_leastBy_86 ?_
        refine lv_topi (fun x_43 ex_43 => ?_)
        have qx_43 : x_43.toInt = 12 - r_1.toInt := by rw [ex_43]; exact zf_sub (by decide) rfl (by omega) (by omega)
        refine lv_aload_n hx hb dX5_leastBy_87 rfl (lv_at hl 3 rfl) ?_
        refine lv_iload_n hx hb dX5_leastBy_88 rfl (lv_at hl 5 rfl) ?_
        refine lv_iconst (v := 1) hx hb dX5_leastBy_89 (by decide) ?_
        refine lv_isub hx hb dX5_leastBy_90 ?_
        refine lv_topi (fun y_44 ey_44 => ?_)
        obtain rfl : y_44 = 1 := ey_44.trans (by decide)
        refine lv_aload_n hx hb dX5_leastBy_91 rfl (lv_at hl 4 rfl) ?_
        refine lv_iload_n hx hb dX5_leastBy_92 rfl (lv_at hl 6 rfl) ?_
        refine lv_aload_n hx hb dX5_leastBy_93 rfl (lv_at hl 3 rfl) ?_
        refine va_get (D := D) (ci := 5) (v := .int wh) (C := RX5) (T := TX5) (N := 7) hx hb hts hi_X5_leastBy_5 hown hK hP 0 rfl rfl 5 (by decide) (hts (.fieldLink RX5 31 "TheLiningsInIt$Ways" "hurry" "I") (List.mem_of_getElem? (i := 1) rfl)) (fun _ h9 => h9) rfl dX5_leastBy_94 ?_
        refine zc_V (As := [.int d, .int wh]) (rest := [.int 1, .ref w0, .int x_43, .int x_40]) ⟨hx, hb, hml, hown, hts⟩ (c_Pull_deeper l D cI cJ cZ cP cS po (d) (wh) u0 (ki) (a_) (ta) hu_u0 ⟨by omega, by omega, by omega, by omega⟩ hy9 hy10 hy4 hy5) (cwV 2 hts gX5_leastBy_X2_deeper rfl rfl rfl ⟨rfl, dh_X2_deeper⟩ ⟨Nat.le_of_ble_eq_true rfl, Nat.le_of_ble_eq_true rfl⟩) hK hN (hZ.kept hS) hP zP_nil (va_recv (q := (RX2, TX2, 3)) hK (zPu_P (hZ.kept hS) hu_u0) (ci := 2) (q0 := 0) rfl rfl) rfl hl.1 rfl (Nat.le_of_ble_eq_true rfl) dX5_leastBy_97 ⟨Nat.le_of_ble_eq_true rfl, Nat.le_of_ble_eq_true rfl⟩ (fun r_45 hr_45 => ?_)
        obtain ⟨g_46, g_47⟩ := hr_45
        refine lv_iload hx hb dX5_leastBy_100 (lv_at hl 1 rfl) ?_
        skip
        refine zw_V (As := [.int 1, .int r_45, .int x_4]) (rest := [.int x_43, .int x_40]) (wr := []) ⟨hx, hb, hml, hown, hts⟩ (c_W_least_1 l D cI cJ cZ cP cS po w0 wk wl wc wp (wn) (wh) (wg) fp fl fc (r_45) (x_4) hy2 hy3 hy4 hy5 hy6 hy7 hwp (by omega) (by omega) hp_fc H.size) (cwV 3 hts gX5_leastBy_X5_least rfl rfl rfl ⟨rfl, dh_X5_least⟩ ⟨Nat.le_of_ble_eq_true rfl, Nat.le_of_ble_eq_true rfl⟩) hK hN (hZ.kept hS) hP hD hS hA [0, 1, 2, 3] [] rfl rfl (by decide) (by decide) (by decide) (va_recv (q := (RX5, TX5, 7)) hK hP (ci := 5) (q0 := 0) rfl rfl) rfl hl.1 rfl (Nat.le_of_ble_eq_true rfl) dX5_leastBy_102 ⟨Nat.le_of_ble_eq_true rfl, Nat.le_of_ble_eq_true rfl⟩ (fun r_48 u_49 H locs hr_48 hP hD hS => ?_)
        obtain ⟨q_50, rfl⟩ : ∃ z, z = u_49 := ⟨_, rfl⟩
        have h9R := zRe (ws' := [(w0, .inr (5, [.ref wk, .ref wl, .ref wc, .ref wp, .int wn, .int wh, .int wg])), (wl, .inl (cI, 125, .inl q_50)), (wc, .inl (cI, 3, .inl fc)), (wp, .inl (cP, 8, .inr (.inr (.inr (.inr fp)))))]) hP hD rfl
        clear hP hD
        obtain ⟨hP, hD⟩ := h9R
        refine lv_imul hx hb dX5_leastBy_105 ?_
        refine lv_topi (fun x_51 ex_51 => ?_)
        refine lv_iadd hx hb dX5_leastBy_106 ?_
        refine lv_topi (fun x_52 ex_52 => ?_)
        refine lv_istore (lv' := [(7, .int x_52), (6, .int x_4), (5, .int r_1), (0, .ref w0), (1, .ref u0), (2, .int 2), (3, .int d), (4, .int sec)]) hx hb dX5_leastBy_107 hl (by decide) rfl (fun ls hl => ?_)
        refine lv_iload hx hb dX5_leastBy_109 (lv_at hl 0 rfl) ?_
        exact W.iret (v := x_52) hx hb hr (fun t ht hW => ⟨⟨x_52, q_50, rfl, trivial, zRet ht hP hD [0, 1, 2, 3] (by decide) rfl⟩, hS.F ht⟩) hS.2.2 dX5_leastBy_111
    · have fc_41 : 0 < r_1.toInt := zf_nle c_41 rfl (by decide)
      refine lv_iload hx hb dX5_leastBy_51 (lv_at hl 0 rfl) ?_
      refine lv_iload hx hb dX5_leastBy_53 (lv_at hl 2 rfl) ?_
      refine lv_aload_n hx hb dX5_leastBy_55 rfl (lv_at hl 3 rfl) ?_
      refine lv_iload_n hx hb dX5_leastBy_56 rfl (lv_at hl 5 rfl) ?_
      refine lv_iconst (v := 1) hx hb dX5_leastBy_57 (by decide) ?_
      refine lv_isub hx hb dX5_leastBy_58 ?_
      refine lv_topi (fun y_53 ey_53 => ?_)
      obtain rfl : y_53 = 1 := ey_53.trans (by decide)
      refine lv_aload_n hx hb dX5_leastBy_59 rfl (lv_at hl 4 rfl) ?_
      refine lv_iload_n hx hb dX5_leastBy_60 rfl (lv_at hl 6 rfl) ?_
      refine zc_V (As := [.int d]) (rest := [.int 1, .ref w0, .int r_1, .int x_40]) ⟨hx, hb, hml, hown, hts⟩ (c_Pull_shallower l D cI cJ cZ cP cS po (d) u0 (ki) (a_) (ta) hu_u0 ⟨by omega, by omega, by omega, by omega⟩ hy9 hy10) (cwV 1 hts gX5_leastBy_X2_shallower rfl rfl rfl ⟨rfl, dh_X2_shallower⟩ ⟨Nat.le_of_ble_eq_true rfl, Nat.le_of_ble_eq_true rfl⟩) hK hN (hZ.kept hS) hP zP_nil (va_recv (q := (RX2, TX2, 3)) hK (zPu_P (hZ.kept hS) hu_u0) (ci := 2) (q0 := 0) rfl rfl) rfl hl.1 rfl (Nat.le_of_ble_eq_true rfl) dX5_leastBy_61 ⟨Nat.le_of_ble_eq_true rfl, Nat.le_of_ble_eq_true rfl⟩ (fun r_54 hr_54 => ?_)
      obtain ⟨g_55, g_56⟩ := hr_54
      refine lv_iload hx hb dX5_leastBy_64 (lv_at hl 1 rfl) ?_
      skip
      refine zw_V (As := [.int 1, .int r_54, .int x_4]) (rest := [.int r_1, .int x_40]) (wr := []) ⟨hx, hb, hml, hown, hts⟩ (c_W_least_1 l D cI cJ cZ cP cS po w0 wk wl wc wp (wn) (wh) (wg) fp fl fc (r_54) (x_4) hy2 hy3 hy4 hy5 hy6 hy7 hwp (by omega) (by omega) hp_fc H.size) (cwV 3 hts gX5_leastBy_X5_least rfl rfl rfl ⟨rfl, dh_X5_least⟩ ⟨Nat.le_of_ble_eq_true rfl, Nat.le_of_ble_eq_true rfl⟩) hK hN (hZ.kept hS) hP hD hS hA [0, 1, 2, 3] [] rfl rfl (by decide) (by decide) (by decide) (va_recv (q := (RX5, TX5, 7)) hK hP (ci := 5) (q0 := 0) rfl rfl) rfl hl.1 rfl (Nat.le_of_ble_eq_true rfl) dX5_leastBy_66 ⟨Nat.le_of_ble_eq_true rfl, Nat.le_of_ble_eq_true rfl⟩ (fun r_57 u_58 H locs hr_57 hP hD hS => ?_)
      obtain ⟨q_59, rfl⟩ : ∃ z, z = u_58 := ⟨_, rfl⟩
      have h9R := zRe (ws' := [(w0, .inr (5, [.ref wk, .ref wl, .ref wc, .ref wp, .int wn, .int wh, .int wg])), (wl, .inl (cI, 125, .inl q_59)), (wc, .inl (cI, 3, .inl fc)), (wp, .inl (cP, 8, .inr (.inr (.inr (.inr fp)))))]) hP hD rfl
      clear hP hD
      obtain ⟨hP, hD⟩ := h9R
      refine lv_imul hx hb dX5_leastBy_69 ?_
      refine lv_topi (fun x_60 ex_60 => ?_)
      refine lv_iadd hx hb dX5_leastBy_70 ?_
      refine lv_topi (fun x_61 ex_61 => ?_)
      refine lv_istore (lv' := [(7, .int x_61), (6, .int x_4), (5, .int r_1), (0, .ref w0), (1, .ref u0), (2, .int 2), (3, .int d), (4, .int sec)]) hx hb dX5_leastBy_71 hl (by decide) rfl (fun ls hl => ?_)
      refine lv_iload hx hb dX5_leastBy_73 (lv_at hl 2 rfl) ?_
      refine lv_bipush (v := 12) hx hb dX5_leastBy_75 (by decide) ?_
      refine lv_icmp_ge (tgt := 109) hx hb dX5_leastBy_77 (by decide) (fun c_62 => ?_) (fun c_62 => ?_)
      · have fc_62 : 12 ≤ r_1.toInt := zf_le c_62 (by decide) rfl
        refine lv_iload hx hb dX5_leastBy_109 (lv_at hl 0 rfl) ?_
        exact W.iret (v := x_61) hx hb hr (fun t ht hW => ⟨⟨x_61, q_59, rfl, trivial, zRet ht hP hD [0, 1, 2, 3] (by decide) rfl⟩, hS.F ht⟩) hS.2.2 dX5_leastBy_111
      · have fc_62 : r_1.toInt < 12 := zf_nle c_62 (by decide) rfl
        refine lv_iload hx hb dX5_leastBy_80 (lv_at hl 0 rfl) ?_
        refine lv_bipush (v := 12) hx hb dX5_leastBy_82 (by decide) ?_
        refine lv_iload hx hb dX5_leastBy_84 (lv_at hl 2 rfl) ?_
        refine lv_isub hx hb dX5_leastBy_86 ?_
        refine lv_topi (fun x_63 ex_63 => ?_)
        have qx_63 : x_63.toInt = 12 - r_1.toInt := by rw [ex_63]; exact zf_sub (by decide) rfl (by omega) (by omega)
        refine lv_aload_n hx hb dX5_leastBy_87 rfl (lv_at hl 3 rfl) ?_
        refine lv_iload_n hx hb dX5_leastBy_88 rfl (lv_at hl 5 rfl) ?_
        refine lv_iconst (v := 1) hx hb dX5_leastBy_89 (by decide) ?_
        refine lv_isub hx hb dX5_leastBy_90 ?_
        refine lv_topi (fun y_64 ey_64 => ?_)
        obtain rfl : y_64 = 1 := ey_64.trans (by decide)
        refine lv_aload_n hx hb dX5_leastBy_91 rfl (lv_at hl 4 rfl) ?_
        refine lv_iload_n hx hb dX5_leastBy_92 rfl (lv_at hl 6 rfl) ?_
        refine lv_aload_n hx hb dX5_leastBy_93 rfl (lv_at hl 3 rfl) ?_
        refine va_get (D := D) (ci := 5) (v := .int wh) (C := RX5) (T := TX5) (N := 7) hx hb hts hi_X5_leastBy_5 hown hK hP 0 rfl rfl 5 (by decide) (hts (.fieldLink RX5 31 "TheLiningsInIt$Ways" "hurry" "I") (List.mem_of_getElem? (i := 1) rfl)) (fun _ h9 => h9) rfl dX5_leastBy_94 ?_
        refine zc_V (As := [.int d, .int wh]) (rest := [.int 1, .ref w0, .int x_63, .int x_61]) ⟨hx, hb, hml, hown, hts⟩ (c_Pull_deeper l D cI cJ cZ cP cS po (d) (wh) u0 (ki) (a_) (ta) hu_u0 ⟨by omega, by omega, by omega, by omega⟩ hy9 hy10 hy4 hy5) (cwV 2 hts gX5_leastBy_X2_deeper rfl rfl rfl ⟨rfl, dh_X2_deeper⟩ ⟨Nat.le_of_ble_eq_true rfl, Nat.le_of_ble_eq_true rfl⟩) hK hN (hZ.kept hS) hP zP_nil (va_recv (q := (RX2, TX2, 3)) hK (zPu_P (hZ.kept hS) hu_u0) (ci := 2) (q0 := 0) rfl rfl) rfl hl.1 rfl (Nat.le_of_ble_eq_true rfl) dX5_leastBy_97 ⟨Nat.le_of_ble_eq_true rfl, Nat.le_of_ble_eq_true rfl⟩ (fun r_65 hr_65 => ?_)
        obtain ⟨g_66, g_67⟩ := hr_65
        refine lv_iload hx hb dX5_leastBy_100 (lv_at hl 1 rfl) ?_
        skip
        refine zw_V (As := [.int 1, .int r_65, .int x_4]) (rest := [.int x_63, .int x_61]) (wr := []) ⟨hx, hb, hml, hown, hts⟩ (c_W_least_1 l D cI cJ cZ cP cS po w0 wk wl wc wp (wn) (wh) (wg) fp q_59 fc (r_65) (x_4) hy2 hy3 hy4 hy5 hy6 hy7 hwp (by omega) (by omega) hp_fc H.size) (cwV 3 hts gX5_leastBy_X5_least rfl rfl rfl ⟨rfl, dh_X5_least⟩ ⟨Nat.le_of_ble_eq_true rfl, Nat.le_of_ble_eq_true rfl⟩) hK hN (hZ.kept hS) hP hD hS hA [0, 1, 2, 3] [] rfl rfl (by decide) (by decide) (by decide) (va_recv (q := (RX5, TX5, 7)) hK hP (ci := 5) (q0 := 0) rfl rfl) rfl hl.1 rfl (Nat.le_of_ble_eq_true rfl) dX5_leastBy_102 ⟨Nat.le_of_ble_eq_true rfl, Nat.le_of_ble_eq_true rfl⟩ (fun r_68 u_69 H locs hr_68 hP hD hS => ?_)
        obtain ⟨q_70, rfl⟩ : ∃ z, z = u_69 := ⟨_, rfl⟩
        have h9R := zRe (ws' := [(w0, .inr (5, [.ref wk, .ref wl, .ref wc, .ref wp, .int wn, .int wh, .int wg])), (wl, .inl (cI, 125, .inl q_70)), (wc, .inl (cI, 3, .inl fc)), (wp, .inl (cP, 8, .inr (.inr (.inr (.inr fp)))))]) hP hD rfl
        clear hP hD
        obtain ⟨hP, hD⟩ := h9R
        refine lv_imul hx hb dX5_leastBy_105 ?_
        refine lv_topi (fun x_71 ex_71 => ?_)
        refine lv_iadd hx hb dX5_leastBy_106 ?_
        refine lv_topi (fun x_72 ex_72 => ?_)
        refine lv_istore (lv' := [(7, .int x_72), (6, .int x_4), (5, .int r_1), (0, .ref w0), (1, .ref u0), (2, .int 2), (3, .int d), (4, .int sec)]) hx hb dX5_leastBy_107 hl (by decide) rfl (fun ls hl => ?_)
        refine lv_iload hx hb dX5_leastBy_109 (lv_at hl 0 rfl) ?_
        exact W.iret (v := x_72) hx hb hr (fun t ht hW => ⟨⟨x_72, q_70, rfl, trivial, zRet ht hP hD [0, 1, 2, 3] (by decide) rfl⟩, hS.F ht⟩) hS.2.2 dX5_leastBy_111
set_option maxHeartbeats 4000000 in
set_option maxRecDepth 100000 in
theorem c_W_least_2 (l : Launch) (D : va_G) (cI cJ cZ cP cS : ClassId) (po : zPool) (w0 wk wl wc wp : Nat) (wn wh wg : Int32) (fp : Nat → Option Nat) (fl fc : Nat → Int32) (d sec : Int32) (hy0 : 0 ≤ wn.toInt) (hy1 : wn.toInt ≤ 8) (hy2 : 0 ≤ wh.toInt) (hy3 : wh.toInt ≤ 9) (hy4 : 0 ≤ wg.toInt) (hy5 : wg.toInt ≤ 60) (hwp : zWP po fp) (hy7 : 0 ≤ d.toInt) (hy8 : d.toInt ≤ 24) (hp_fc : zRg fc (0) 99) (hpz : Nat) : Met l yX5_least wsX5_least ({ frames := 6, cells := 0, slots := 0, locals := 153 }) (va_Pc [.ref w0, .int 2, .int d, .int sec] (zW D (zKT cI cJ cZ cP cS) po [(w0, .inr (5, [.ref wk, .ref wl, .ref wc, .ref wp, .int wn, .int wh, .int wg])), (wl, .inl (cI, 125, .inl fl)), (wc, .inl (cI, 3, .inl fc)), (wp, .inl (cP, 8, .inr (.inr (.inr (.inr fp)))))] hpz)) (va_Qi (fun (r : Int32) (fl2 : (Nat → Int32)) => True) (zB D [(w0, .inr (5, [.ref wk, .ref wl, .ref wc, .ref wp, .int wn, .int wh, .int wg])), (wl, .inl (cI, 125, .inl fl)), (wc, .inl (cI, 3, .inl fc)), (wp, .inl (cP, 8, .inr (.inr (.inr (.inr fp)))))] hpz (fun (fl2 : Nat → Int32) => [(w0, .inr (5, [.ref wk, .ref wl, .ref wc, .ref wp, .int wn, .int wh, .int wg])), (wl, .inl (cI, 125, .inl fl2)), (wc, .inl (cI, 3, .inl fc)), (wp, .inl (cP, 8, .inr (.inr (.inr (.inr fp)))))])) (va_A [(w0, .inr (5, [.ref wk, .ref wl, .ref wc, .ref wp, .int wn, .int wh, .int wg])), (wl, .inl (cI, 125, .inl fl)), (wc, .inl (cI, 3, .inl fc)), (wp, .inl (cP, 8, .inr (.inr (.inr (.inr fp)))))] hpz)) 0 0 (va_A [(w0, .inr (5, [.ref wk, .ref wl, .ref wc, .ref wp, .int wn, .int wh, .int wg])), (wl, .inl (cI, 125, .inl fl)), (wc, .inl (cI, 3, .inl fc)), (wp, .inl (cP, 8, .inr (.inr (.inr (.inr fp)))))] hpz) := by
  refine Met.ofW (cc := cX5_least) (maxL := 9) (ret := (some .int)) (by decide) rfl ?_
  intro p e s m args below meth c s₁ B hml hv
  obtain ⟨rfl, hsz, hP, hK, hD0, hN, hZ⟩ := hv
  have hx := B.exec
  have hb := B.bytes
  have hr := B.returns
  have hts := atoms_spec (ws := wsX5_least) B.pre
  have hown : s.vm.findClass RX5 = some m.cls := findClass_of_methodNamed B.named
  have hlocks := B.notSynchronized
  subst hsz
  have hD := hD0.self (sz := s.heap.size)
  have hA := zA_of hD
  have hl := lv_entry ([.ref w0, .int 2, .int d, .int sec]) (n := 9) (Nat.le_of_ble_eq_true rfl)
  rw [lg_entry_eq]
  generalize (lg_sl ([.ref w0, .int 2, .int d, .int sec]) ++ List.replicate (9 - (lg_sl ([.ref w0, .int 2, .int d, .int sec])).length) Slot.unset).toArray = ls at hl ⊢
  replace hl : lv_has ls 9 [(0, .ref w0), (1, .int 2), (2, .int d), (3, .int sec)] := hl
  refine zw_begin hP hD (fun H locs hP1 hS => ?_)
  clear hP
  have hP := hP1
  clear hP1
  refine lv_iload_n hx hb dX5_least_0 rfl (lv_at hl 1 rfl) ?_
  refine lv_if_lt (tgt := 20) hx hb dX5_least_1 (by decide) (fun c_1 => ?_) (fun c_1 => ?_)
  · exact absurd c_1 (by decide)
  · refine lv_iload_n hx hb dX5_least_4 rfl (lv_at hl 1 rfl) ?_
    refine lv_iconst (v := 4) hx hb dX5_least_5 (by decide) ?_
    refine lv_icmp_gt (tgt := 20) hx hb dX5_least_6 (by decide) (fun c_2 => ?_) (fun c_2 => ?_)
    · exact absurd c_2 (by decide)
    · refine lv_iload_n hx hb dX5_least_9 rfl (lv_at hl 2 rfl) ?_
      refine lv_iconst (v := 1) hx hb dX5_least_10 (by decide) ?_
      refine lv_icmp_lt (tgt := 20) hx hb dX5_least_11 (by decide) (fun c_3 => ?_) (fun c_3 => ?_)
      · have fc_3 : d.toInt < 1 := zf_lt c_3 rfl (by decide)
        refine lv_iconst (v := 0) hx hb dX5_least_20 (by decide) ?_
        exact W.iret (v := 0) hx hb hr (fun t ht hW => ⟨⟨0, fl, rfl, trivial, zRet ht hP hD [0, 1, 2, 3] (by decide) rfl⟩, hS.F ht⟩) hS.2.2 dX5_least_21
      · have fc_3 : 1 ≤ d.toInt := zf_nlt c_3 rfl (by decide)
        refine lv_iload_n hx hb dX5_least_14 rfl (lv_at hl 2 rfl) ?_
        refine lv_bipush (v := 24) hx hb dX5_least_15 (by decide) ?_
        refine lv_icmp_le (tgt := 22) hx hb dX5_least_17 (by decide) (fun c_4 => ?_) (fun c_4 => ?_)
        · have fc_4 : d.toInt ≤ 24 := zf_le c_4 rfl (by decide)
          refine lv_iload_n hx hb dX5_least_22 rfl (lv_at hl 3 rfl) ?_
          refine lv_iload_n hx hb dX5_least_23 rfl (lv_at hl 1 rfl) ?_
          refine lv_aload_n hx hb dX5_least_24 rfl (lv_at hl 0 rfl) ?_
          refine va_get (D := D) (ci := 5) (v := .int wg) (C := RX5) (T := TX5) (N := 7) hx hb hts hi_X5_least_5 hown hK hP 0 rfl rfl 6 (by decide) (hts (.fieldLink RX5 34 "TheLiningsInIt$Ways" "longest" "I") (List.mem_of_getElem? (i := 1) rfl)) (fun _ h9 => h9) rfl dX5_least_25 ?_
          refine lv_imul hx hb dX5_least_28 ?_
          refine lv_topi (fun x_5 ex_5 => ?_)
          have qx_5 : x_5.toInt = 2 * wg.toInt := by rw [ex_5]; exact zf_mul (by decide) rfl (by omega) (by omega)
          refine lv_bipush (v := 30) hx hb dX5_least_29 (by decide) ?_
          refine lv_iadd hx hb dX5_least_31 ?_
          refine lv_topi (fun x_6 ex_6 => ?_)
          have qx_6 : x_6.toInt = x_5.toInt + 30 := by rw [ex_6]; exact zf_add rfl (by decide) (by omega) (by omega)
          refine lv_icmp_lt (tgt := 39) hx hb dX5_least_32 (by decide) (fun c_7 => ?_) (fun c_7 => ?_)
          · have fc_7 : sec.toInt < x_6.toInt := zf_lt c_7 rfl rfl
            refine lv_iconst (v := 0) hx hb dX5_least_39 (by decide) ?_
            refine lv_istore (lv' := [(4, .int 0), (0, .ref w0), (1, .int 2), (2, .int d), (3, .int sec)]) hx hb dX5_least_40 hl (by decide) rfl (fun ls hl => ?_)
            refine lv_iload_n hx hb dX5_least_42 rfl (lv_at hl 2 rfl) ?_
            refine lv_bipush (v := 25) hx hb dX5_least_43 (by decide) ?_
            refine lv_imul hx hb dX5_least_45 ?_
            refine lv_topi (fun y_8 ey_8 => ?_)
            obtain rfl : y_8 = 50 := ey_8.trans (by decide)
            refine lv_iload_n hx hb dX5_least_46 rfl (lv_at hl 3 rfl) ?_
            refine lv_iadd hx hb dX5_least_47 ?_
            refine lv_topi (fun x_9 ex_9 => ?_)
            have qx_9 : x_9.toInt = 50 + d.toInt := by rw [ex_9]; exact zf_add (by decide) rfl (by omega) (by omega)
            refine lv_istore (lv' := [(5, .int x_9), (4, .int 0), (0, .ref w0), (1, .int 2), (2, .int d), (3, .int sec)]) hx hb dX5_least_48 hl (by decide) rfl (fun ls hl => ?_)
            refine lv_iload hx hb dX5_least_50 (lv_at hl 1 rfl) ?_
            refine lv_if_eq (tgt := 74) hx hb dX5_least_52 (by decide) (fun c_10 => ?_) (fun c_10 => ?_)
            · refine lv_aload_n hx hb dX5_least_74 rfl (lv_at hl 2 rfl) ?_
              refine lv_iload_n hx hb dX5_least_75 rfl (lv_at hl 3 rfl) ?_
              refine lv_iload_n hx hb dX5_least_76 rfl (lv_at hl 5 rfl) ?_
              refine zc_V (As := [.int 2, .int sec]) (rest := []) ⟨hx, hb, hml, hown, hts⟩ (c_W_leastAtOnce_2 l D cI cJ cZ cP cS po w0 wk wl wc wp (wn) (wh) (wg) fc (sec) hy0 hy1 hy2 hy3 hy4 hy5 hp_fc) (cwV 2 hts gX5_least_X5_leastAtOnce rfl rfl rfl ⟨rfl, dh_X5_leastAtOnce⟩ ⟨Nat.le_of_ble_eq_true rfl, Nat.le_of_ble_eq_true rfl⟩) hK hN (hZ.kept hS) hP (hP.sub [0, 2] rfl) (va_recv (q := (RX5, TX5, 7)) hK hP (ci := 5) (q0 := 0) rfl rfl) rfl hl.1 rfl (Nat.le_of_ble_eq_true rfl) dX5_least_77 ⟨Nat.le_of_ble_eq_true rfl, Nat.le_of_ble_eq_true rfl⟩ (fun r_11 hr_11 => ?_)
              refine lv_istore (lv' := [(6, .int r_11), (5, .int x_9), (4, .int 0), (0, .ref w0), (1, .int 2), (2, .int d), (3, .int sec)]) hx hb dX5_least_80 hl (by decide) rfl (fun ls hl => ?_)
              refine lv_iconst (v := 0) hx hb dX5_least_82 (by decide) ?_
              refine lv_istore (lv' := [(7, .int 0), (6, .int r_11), (5, .int x_9), (4, .int 0), (0, .ref w0), (1, .int 2), (2, .int d), (3, .int sec)]) hx hb dX5_least_83 hl (by decide) rfl (fun ls hl => ?_)
              obtain ⟨i_85, hi_85⟩ : ∃ i : Int32, i = 0 := ⟨_, rfl⟩
              replace hl : lv_has ls 9 [(7, .int i_85), (6, .int r_11), (5, .int x_9), (4, .int 0), (0, .ref w0), (1, .int 2), (2, .int d), (3, .int sec)] := by rw [hi_85]; exact lv_sub hl [0, 1, 2, 3, 4, 5, 6, 7] rfl
              have h1i_85 : i_85.toInt = 0 := by rw [hi_85]; decide
              obtain ⟨nfu, hni_85⟩ : ∃ nq9 : Nat, wn.toInt ≤ i_85.toInt + (nq9 : Int) := ⟨((wn.toInt : Int) - 0).toNat, by omega⟩
              have hloi_85 : 0 ≤ i_85.toInt := by omega
              obtain ⟨g_12, hg_12⟩ : ∃ g : Nat → Int32, g = fl := ⟨_, rfl⟩
              replace hP : va_P D vwCl [(w0, .inr (5, [.ref wk, .ref wl, .ref wc, .ref wp, .int wn, .int wh, .int wg])), (wl, .inl (cI, 125, .inl g_12)), (wc, .inl (cI, 3, .inl fc)), (wp, .inl (cP, 8, .inr (.inr (.inr (.inr fp)))))] H := by rw [hg_12]; exact hP
              replace hD : va_D (va_A [(w0, .inr (5, [.ref wk, .ref wl, .ref wc, .ref wp, .int wn, .int wh, .int wg])), (wl, .inl (cI, 125, .inl fl)), (wc, .inl (cI, 3, .inl fc)), (wp, .inl (cP, 8, .inr (.inr (.inr (.inr fp)))))] s.heap.size) [(w0, .inr (5, [.ref wk, .ref wl, .ref wc, .ref wp, .int wn, .int wh, .int wg])), (wl, .inl (cI, 125, .inl g_12)), (wc, .inl (cI, 3, .inl fc)), (wp, .inl (cP, 8, .inr (.inr (.inr (.inr fp)))))] := by rw [hg_12]; exact hD
              obtain ⟨v_13, hv_13⟩ : ∃ g : Int32, g = r_11 := ⟨_, rfl⟩
              replace hl : lv_has ls 9 [(7, .int i_85), (6, .int v_13), (5, .int x_9), (4, .int 0), (0, .ref w0), (1, .int 2), (2, .int d), (3, .int sec)] := by rw [hv_13]; exact hl
              clear h1i_85 hi_85 hg_12 hv_13
              skip
              revert hni_85
              revert hloi_85
              revert hl
              revert hS
              revert hD
              revert hP
              revert ls
              revert locs
              revert H
              revert g_12
              revert v_13
              revert i_85
              induction nfu with
              | zero =>
                intro i_85 v_13 g_12 H locs ls hP hD hS hl hloi_85 hni_85
                have hzi_85 : wn.toInt ≤ i_85.toInt := by omega
                refine lv_iload hx hb dX5_least_85 (lv_at hl 0 rfl) ?_
                refine lv_aload_n hx hb dX5_least_87 rfl (lv_at hl 4 rfl) ?_
                refine va_get (D := D) (ci := 5) (v := .int wn) (C := RX5) (T := TX5) (N := 7) hx hb hts hi_X5_least_5 hown hK hP 0 rfl rfl 4 (by decide) (hts (.fieldLink RX5 27 "TheLiningsInIt$Ways" "count" "I") (List.mem_of_getElem? (i := 3) rfl)) (fun _ h9 => h9) rfl dX5_least_88 ?_
                refine lv_icmp_ge (tgt := 135) hx hb dX5_least_91 (by decide) (fun c_14 => ?_) (fun c_14 => ?_)
                · have fc_14 : wn.toInt ≤ i_85.toInt := zf_le c_14 rfl rfl
                  refine lv_iload hx hb dX5_least_135 (lv_at hl 3 rfl) ?_
                  refine lv_if_eq (tgt := 149) hx hb dX5_least_137 (by decide) (fun c_15 => ?_) (fun c_15 => ?_)
                  · refine lv_iload hx hb dX5_least_149 (lv_at hl 1 rfl) ?_
                    exact W.iret (v := v_13) hx hb hr (fun t ht hW => ⟨⟨v_13, g_12, rfl, trivial, zRet ht hP hD [0, 1, 2, 3] (by decide) rfl⟩, hS.F ht⟩) hS.2.2 dX5_least_151
                  · exact absurd c_15 (by decide)
                · exfalso; have fc_14 : i_85.toInt < wn.toInt := zf_nle c_14 rfl rfl; omega
              | succ nfu ih =>
                intro i_85 v_13 g_12 H locs ls hP hD hS hl hloi_85 hni_85
                refine lv_iload hx hb dX5_least_85 (lv_at hl 0 rfl) ?_
                refine lv_aload_n hx hb dX5_least_87 rfl (lv_at hl 4 rfl) ?_
                refine va_get (D := D) (ci := 5) (v := .int wn) (C := RX5) (T := TX5) (N := 7) hx hb hts hi_X5_least_5 hown hK hP 0 rfl rfl 4 (by decide) (hts (.fieldLink RX5 27 "TheLiningsInIt$Ways" "count" "I") (List.mem_of_getElem? (i := 3) rfl)) (fun _ h9 => h9) rfl dX5_least_88 ?_
                refine lv_icmp_ge (tgt := 135) hx hb dX5_least_91 (by decide) (fun c_16 => ?_) (fun c_16 => ?_)
                · have fc_16 : wn.toInt ≤ i_85.toInt := zf_le c_16 rfl rfl
                  refine lv_iload hx hb dX5_least_135 (lv_at hl 3 rfl) ?_
                  refine lv_if_eq (tgt := 149) hx hb dX5_least_137 (by decide) (fun c_17 => ?_) (fun c_17 => ?_)
                  · refine lv_iload hx hb dX5_least_149 (lv_at hl 1 rfl) ?_
                    exact W.iret (v := v_13) hx hb hr (fun t ht hW => ⟨⟨v_13, g_12, rfl, trivial, zRet ht hP hD [0, 1, 2, 3] (by decide) rfl⟩, hS.F ht⟩) hS.2.2 dX5_least_151
                  · exact absurd c_17 (by decide)
                · have fc_16 : i_85.toInt < wn.toInt := zf_nle c_16 rfl rfl
                  refine lv_iload_n hx hb dX5_least_94 rfl (lv_at hl 5 rfl) ?_
                  refine lv_if_le (tgt := 135) hx hb dX5_least_95 (by decide) (fun c_18 => ?_) (fun c_18 => ?_)
                  · exact absurd c_18 (by decide)
                  · refine lv_aload_n hx hb dX5_least_98 rfl (lv_at hl 4 rfl) ?_
                    refine lv_iload hx hb dX5_least_99 (lv_at hl 0 rfl) ?_
                    refine lv_iload_n hx hb dX5_least_101 rfl (lv_at hl 6 rfl) ?_
                    refine lv_iload_n hx hb dX5_least_102 rfl (lv_at hl 7 rfl) ?_
                    refine zc_Vq (As := [.int i_85, .int d, .int sec]) (rest := []) ⟨hx, hb, hml, hown, hts⟩ (c_W_mayBeAt l D cI cJ cZ cP cS po w0 wk wl wc wp (wn) (wh) (wg) fp (i_85) (d) (sec) hy0 hy1 hy2 hy3 hy4 hy5 hwp) (cwV 3 hts gX5_least_X5_mayBeAt rfl rfl rfl ⟨rfl, dh_X5_mayBeAt⟩ ⟨Nat.le_of_ble_eq_true rfl, Nat.le_of_ble_eq_true rfl⟩) hK hN (hZ.kept hS) hP (hP.sub [0, 3] rfl) (va_recv (q := (RX5, TX5, 7)) hK hP (ci := 5) (q0 := 0) rfl rfl) rfl hl.1 rfl (Nat.le_of_ble_eq_true rfl) dX5_least_103 ⟨Nat.le_of_ble_eq_true rfl, Nat.le_of_ble_eq_true rfl⟩ (fun r_19 hr_19 => ?_)
                    rcases hr_19 with ⟨rfl, g_20⟩ | ⟨rfl, g_21, g_22⟩ | ⟨rfl, g_23, g_24⟩ | ⟨rfl, g_25, g_26, g_27⟩ | ⟨rfl, g_28, g_29, g_30⟩ | ⟨⟨u_34, kiu_34, au_34, tu_34, rfl, huu_34⟩, g_31, g_32, g_33⟩
                    · exfalso; omega
                    · exfalso; omega
                    · refine lv_astoreN (lv' := [(8, .null), (7, .int i_85), (6, .int v_13), (5, .int x_9), (4, .int 0), (0, .ref w0), (1, .int 2), (2, .int d), (3, .int sec)]) hx hb dX5_least_106 hl (by decide) rfl (fun ls hl => ?_)
                      refine lv_aloadN hx hb dX5_least_108 (lv_at hl 0 rfl) ?_
                      refine lv_ifnullN (tgt := 129) hx hb dX5_least_110 (by decide) ?_
                      obtain ⟨x_35, ex_35⟩ : ∃ y : Int32, y = i_85 + 1 := ⟨_, rfl⟩
                      have qx_35 : x_35.toInt = i_85.toInt + 1 := dw_inc ex_35 fc_16
                      refine lv_iinc (v := x_35) (lv' := [(7, .int x_35), (8, .null), (6, .int v_13), (5, .int x_9), (4, .int 0), (0, .ref w0), (1, .int 2), (2, .int d), (3, .int sec)]) hx hb dX5_least_129 hl (k := 1) rfl ex_35.symm (by decide) rfl (fun ls hl => ?_)
                      refine lv_goto (tgt := 85) hx hb dX5_least_132 (by decide) ?_
                      exact ih x_35 v_13 (g_12) _ _ _ (hP.sub [0, 1, 2, 3] rfl) (hD.sub [0, 1, 2, 3] (by decide) rfl) hS (lv_sub hl [0, 2, 3, 4, 5, 6, 7, 8] rfl) (dw_lo hloi_85 qx_35) (dw_hn hni_85 qx_35)
                    · exfalso; omega
                    · refine lv_astoreN (lv' := [(8, .null), (7, .int i_85), (6, .int v_13), (5, .int x_9), (4, .int 0), (0, .ref w0), (1, .int 2), (2, .int d), (3, .int sec)]) hx hb dX5_least_106 hl (by decide) rfl (fun ls hl => ?_)
                      refine lv_aloadN hx hb dX5_least_108 (lv_at hl 0 rfl) ?_
                      refine lv_ifnullN (tgt := 129) hx hb dX5_least_110 (by decide) ?_
                      obtain ⟨x_36, ex_36⟩ : ∃ y : Int32, y = i_85 + 1 := ⟨_, rfl⟩
                      have qx_36 : x_36.toInt = i_85.toInt + 1 := dw_inc ex_36 fc_16
                      refine lv_iinc (v := x_36) (lv' := [(7, .int x_36), (8, .null), (6, .int v_13), (5, .int x_9), (4, .int 0), (0, .ref w0), (1, .int 2), (2, .int d), (3, .int sec)]) hx hb dX5_least_129 hl (k := 1) rfl ex_36.symm (by decide) rfl (fun ls hl => ?_)
                      refine lv_goto (tgt := 85) hx hb dX5_least_132 (by decide) ?_
                      exact ih x_36 v_13 (g_12) _ _ _ (hP.sub [0, 1, 2, 3] rfl) (hD.sub [0, 1, 2, 3] (by decide) rfl) hS (lv_sub hl [0, 2, 3, 4, 5, 6, 7, 8] rfl) (dw_lo hloi_85 qx_36) (dw_hn hni_85 qx_36)
                    · refine W.eq (g2 := F0 m 106 ls (.ref u_34 :: [])) rfl ?_
                      obtain ⟨hku_34, hau_34, htu_34⟩ := zPu_pr (hZ.kept hS) huu_34
                      refine lv_astore (lv' := [(8, .ref u_34), (7, .int i_85), (6, .int v_13), (5, .int x_9), (4, .int 0), (0, .ref w0), (1, .int 2), (2, .int d), (3, .int sec)]) hx hb dX5_least_106 hl (by decide) rfl (fun ls hl => ?_)
                      refine lv_aload hx hb dX5_least_108 (lv_at hl 0 rfl) ?_
                      refine lv_ifnull hx hb dX5_least_110 ?_
                      refine lv_iload hx hb dX5_least_113 (lv_at hl 2 rfl) ?_
                      refine lv_aload_n hx hb dX5_least_115 rfl (lv_at hl 5 rfl) ?_
                      refine lv_aload hx hb dX5_least_116 (lv_at hl 0 rfl) ?_
                      refine lv_iload_n hx hb dX5_least_118 rfl (lv_at hl 6 rfl) ?_
                      refine lv_iload_n hx hb dX5_least_119 rfl (lv_at hl 7 rfl) ?_
                      refine lv_iload_n hx hb dX5_least_120 rfl (lv_at hl 8 rfl) ?_
                      skip
                      refine zw_V (As := [.ref u_34, .int 2, .int d, .int sec]) (rest := [.int v_13]) (wr := []) ⟨hx, hb, hml, hown, hts⟩ (c_W_leastBy_2 l D cI cJ cZ cP cS po w0 wk wl wc wp (wn) (wh) (wg) fp g_12 fc (d) (sec) u_34 (kiu_34) (au_34) (tu_34) huu_34 ⟨by omega, by omega, by omega, by omega⟩ hy0 hy1 hy2 hy3 hy4 hy5 hwp hy7 hy8 hp_fc H.size) (cwV 4 hts gX5_least_X5_leastBy rfl rfl rfl ⟨rfl, dh_X5_leastBy⟩ ⟨Nat.le_of_ble_eq_true rfl, Nat.le_of_ble_eq_true rfl⟩) hK hN (hZ.kept hS) hP hD hS hA [0, 1, 2, 3] [] rfl rfl (by decide) (by decide) (by decide) (va_recv (q := (RX5, TX5, 7)) hK hP (ci := 5) (q0 := 0) rfl rfl) rfl hl.1 rfl (Nat.le_of_ble_eq_true rfl) dX5_least_121 ⟨Nat.le_of_ble_eq_true rfl, Nat.le_of_ble_eq_true rfl⟩ (fun r_37 u_38 H locs hr_37 hP hD hS => ?_)
                      obtain ⟨q_39, rfl⟩ : ∃ z, z = u_38 := ⟨_, rfl⟩
                      have h9R := zRe (ws' := [(w0, .inr (5, [.ref wk, .ref wl, .ref wc, .ref wp, .int wn, .int wh, .int wg])), (wl, .inl (cI, 125, .inl q_39)), (wc, .inl (cI, 3, .inl fc)), (wp, .inl (cP, 8, .inr (.inr (.inr (.inr fp)))))]) hP hD rfl
                      clear hP hD
                      obtain ⟨hP, hD⟩ := h9R
                      refine va_mmin hx hb (hml.trans hl.1.symm) hown (hts (.methodLink RX5 110 Lib.Math.min.name) (List.mem_of_getElem? (i := 4) rfl)) (hts _ (List.mem_of_getElem? (i := 5) rfl)) (hts _ (List.mem_of_getElem? (i := 6) rfl)) (hts _ (List.mem_of_getElem? (i := 7) rfl)) (Nat.le_of_ble_eq_true rfl) (Nat.le_of_ble_eq_true rfl) (Nat.le_of_ble_eq_true rfl) (Nat.le_of_ble_eq_true rfl) dX5_least_124 ?_
                      refine lv_topi (fun x_40 ex_40 => ?_)
                      have qx_40 := zf_min ex_40 (x1 := v_13.toInt) (y1 := r_37.toInt) rfl rfl
                      refine lv_istore (lv' := [(6, .int x_40), (8, .ref u_34), (7, .int i_85), (5, .int x_9), (4, .int 0), (0, .ref w0), (1, .int 2), (2, .int d), (3, .int sec)]) hx hb dX5_least_127 hl (by decide) rfl (fun ls hl => ?_)
                      obtain ⟨x_41, ex_41⟩ : ∃ y : Int32, y = i_85 + 1 := ⟨_, rfl⟩
                      have qx_41 : x_41.toInt = i_85.toInt + 1 := dw_inc ex_41 fc_16
                      refine lv_iinc (v := x_41) (lv' := [(7, .int x_41), (6, .int x_40), (8, .ref u_34), (5, .int x_9), (4, .int 0), (0, .ref w0), (1, .int 2), (2, .int d), (3, .int sec)]) hx hb dX5_least_129 hl (k := 2) rfl ex_41.symm (by decide) rfl (fun ls hl => ?_)
                      refine lv_goto (tgt := 85) hx hb dX5_least_132 (by decide) ?_
                      exact ih x_41 x_40 (q_39) _ _ _ (hP.sub [0, 1, 2, 3] rfl) (hD.sub [0, 1, 2, 3] (by decide) rfl) hS (lv_sub hl [0, 1, 3, 4, 5, 6, 7, 8] rfl) (dw_lo hloi_85 qx_41) (dw_hn hni_85 qx_41)
            · exact absurd c_10 (by decide)
          · have fc_7 : x_6.toInt ≤ sec.toInt := zf_nlt c_7 rfl rfl
            refine lv_iconst (v := 1) hx hb dX5_least_35 (by decide) ?_
            refine lv_goto (tgt := 40) hx hb dX5_least_36 (by decide) ?_
            refine lv_istore (lv' := [(4, .int 1), (0, .ref w0), (1, .int 2), (2, .int d), (3, .int sec)]) hx hb dX5_least_40 hl (by decide) rfl (fun ls hl => ?_)
            refine lv_iload_n hx hb dX5_least_42 rfl (lv_at hl 2 rfl) ?_
            refine lv_bipush (v := 25) hx hb dX5_least_43 (by decide) ?_
            refine lv_imul hx hb dX5_least_45 ?_
            refine lv_topi (fun y_42 ey_42 => ?_)
            obtain rfl : y_42 = 50 := ey_42.trans (by decide)
            refine lv_iload_n hx hb dX5_least_46 rfl (lv_at hl 3 rfl) ?_
            refine lv_iadd hx hb dX5_least_47 ?_
            refine lv_topi (fun x_43 ex_43 => ?_)
            have qx_43 : x_43.toInt = 50 + d.toInt := by rw [ex_43]; exact zf_add (by decide) rfl (by omega) (by omega)
            refine lv_istore (lv' := [(5, .int x_43), (4, .int 1), (0, .ref w0), (1, .int 2), (2, .int d), (3, .int sec)]) hx hb dX5_least_48 hl (by decide) rfl (fun ls hl => ?_)
            refine lv_iload hx hb dX5_least_50 (lv_at hl 1 rfl) ?_
            refine lv_if_eq (tgt := 74) hx hb dX5_least_52 (by decide) (fun c_44 => ?_) (fun c_44 => ?_)
            · exact absurd c_44 (by decide)
            · refine lv_aload_n hx hb dX5_least_55 rfl (lv_at hl 2 rfl) ?_
              refine va_get (D := D) (ci := 5) (v := .ref wl) (C := RX5) (T := TX5) (N := 7) hx hb hts hi_X5_least_5 hown hK hP 0 rfl rfl 1 (by decide) (hts (.fieldLink RX5 15 "TheLiningsInIt$Ways" "knownLeast" "[I") (List.mem_of_getElem? (i := 2) rfl)) (fun _ h9 => h9) rfl dX5_least_56 ?_
              refine lv_iload hx hb dX5_least_59 (lv_at hl 0 rfl) ?_
              refine va_iald hx hb hK hP 1 0 rfl rfl (zf_in (by omega) (by omega)) dX5_least_61 ?_
              refine lv_topi (fun x_45 ex_45 => ?_)
              refine lv_iconst (v := (-1)) hx hb dX5_least_62 (by decide) ?_
              refine lv_icmp_eq (tgt := 74) hx hb dX5_least_63 (by decide) (fun c_46 => ?_) (fun c_46 => ?_)
              · have fc_46 : x_45.toInt = (-1) := zf_eq c_46 rfl (by decide)
                refine lv_aload_n hx hb dX5_least_74 rfl (lv_at hl 2 rfl) ?_
                refine lv_iload_n hx hb dX5_least_75 rfl (lv_at hl 3 rfl) ?_
                refine lv_iload_n hx hb dX5_least_76 rfl (lv_at hl 5 rfl) ?_
                refine zc_V (As := [.int 2, .int sec]) (rest := []) ⟨hx, hb, hml, hown, hts⟩ (c_W_leastAtOnce_2 l D cI cJ cZ cP cS po w0 wk wl wc wp (wn) (wh) (wg) fc (sec) hy0 hy1 hy2 hy3 hy4 hy5 hp_fc) (cwV 2 hts gX5_least_X5_leastAtOnce rfl rfl rfl ⟨rfl, dh_X5_leastAtOnce⟩ ⟨Nat.le_of_ble_eq_true rfl, Nat.le_of_ble_eq_true rfl⟩) hK hN (hZ.kept hS) hP (hP.sub [0, 2] rfl) (va_recv (q := (RX5, TX5, 7)) hK hP (ci := 5) (q0 := 0) rfl rfl) rfl hl.1 rfl (Nat.le_of_ble_eq_true rfl) dX5_least_77 ⟨Nat.le_of_ble_eq_true rfl, Nat.le_of_ble_eq_true rfl⟩ (fun r_47 hr_47 => ?_)
                refine lv_istore (lv' := [(6, .int r_47), (5, .int x_43), (4, .int 1), (0, .ref w0), (1, .int 2), (2, .int d), (3, .int sec)]) hx hb dX5_least_80 hl (by decide) rfl (fun ls hl => ?_)
                refine lv_iconst (v := 0) hx hb dX5_least_82 (by decide) ?_
                refine lv_istore (lv' := [(7, .int 0), (6, .int r_47), (5, .int x_43), (4, .int 1), (0, .ref w0), (1, .int 2), (2, .int d), (3, .int sec)]) hx hb dX5_least_83 hl (by decide) rfl (fun ls hl => ?_)
                obtain ⟨i_85, hi_85⟩ : ∃ i : Int32, i = 0 := ⟨_, rfl⟩
                replace hl : lv_has ls 9 [(7, .int i_85), (6, .int r_47), (5, .int x_43), (4, .int 1), (0, .ref w0), (1, .int 2), (2, .int d), (3, .int sec)] := by rw [hi_85]; exact lv_sub hl [0, 1, 2, 3, 4, 5, 6, 7] rfl
                have h1i_85 : i_85.toInt = 0 := by rw [hi_85]; decide
                obtain ⟨nfu, hni_85⟩ : ∃ nq9 : Nat, wn.toInt ≤ i_85.toInt + (nq9 : Int) := ⟨((wn.toInt : Int) - 0).toNat, by omega⟩
                have hloi_85 : 0 ≤ i_85.toInt := by omega
                obtain ⟨g_48, hg_48⟩ : ∃ g : Nat → Int32, g = fl := ⟨_, rfl⟩
                replace hP : va_P D vwCl [(w0, .inr (5, [.ref wk, .ref wl, .ref wc, .ref wp, .int wn, .int wh, .int wg])), (wl, .inl (cI, 125, .inl g_48)), (wc, .inl (cI, 3, .inl fc)), (wp, .inl (cP, 8, .inr (.inr (.inr (.inr fp)))))] H := by rw [hg_48]; exact hP
                replace hD : va_D (va_A [(w0, .inr (5, [.ref wk, .ref wl, .ref wc, .ref wp, .int wn, .int wh, .int wg])), (wl, .inl (cI, 125, .inl fl)), (wc, .inl (cI, 3, .inl fc)), (wp, .inl (cP, 8, .inr (.inr (.inr (.inr fp)))))] s.heap.size) [(w0, .inr (5, [.ref wk, .ref wl, .ref wc, .ref wp, .int wn, .int wh, .int wg])), (wl, .inl (cI, 125, .inl g_48)), (wc, .inl (cI, 3, .inl fc)), (wp, .inl (cP, 8, .inr (.inr (.inr (.inr fp)))))] := by rw [hg_48]; exact hD
                obtain ⟨v_49, hv_49⟩ : ∃ g : Int32, g = r_47 := ⟨_, rfl⟩
                replace hl : lv_has ls 9 [(7, .int i_85), (6, .int v_49), (5, .int x_43), (4, .int 1), (0, .ref w0), (1, .int 2), (2, .int d), (3, .int sec)] := by rw [hv_49]; exact hl
                clear h1i_85 hi_85 hg_48 hv_49
                skip
                revert hni_85
                revert hloi_85
                revert hl
                revert hS
                revert hD
                revert hP
                revert ls
                revert locs
                revert H
                revert g_48
                revert v_49
                revert i_85
                induction nfu with
                | zero =>
                  intro i_85 v_49 g_48 H locs ls hP hD hS hl hloi_85 hni_85
                  have hzi_85 : wn.toInt ≤ i_85.toInt := by omega
                  refine lv_iload hx hb dX5_least_85 (lv_at hl 0 rfl) ?_
                  refine lv_aload_n hx hb dX5_least_87 rfl (lv_at hl 4 rfl) ?_
                  refine va_get (D := D) (ci := 5) (v := .int wn) (C := RX5) (T := TX5) (N := 7) hx hb hts hi_X5_least_5 hown hK hP 0 rfl rfl 4 (by decide) (hts (.fieldLink RX5 27 "TheLiningsInIt$Ways" "count" "I") (List.mem_of_getElem? (i := 3) rfl)) (fun _ h9 => h9) rfl dX5_least_88 ?_
                  refine lv_icmp_ge (tgt := 135) hx hb dX5_least_91 (by decide) (fun c_50 => ?_) (fun c_50 => ?_)
                  · have fc_50 : wn.toInt ≤ i_85.toInt := zf_le c_50 rfl rfl
                    refine lv_iload hx hb dX5_least_135 (lv_at hl 3 rfl) ?_
                    refine lv_if_eq (tgt := 149) hx hb dX5_least_137 (by decide) (fun c_51 => ?_) (fun c_51 => ?_)
                    · exact absurd c_51 (by decide)
                    · refine lv_aload_n hx hb dX5_least_140 rfl (lv_at hl 4 rfl) ?_
                      refine va_get (D := D) (ci := 5) (v := .ref wl) (C := RX5) (T := TX5) (N := 7) hx hb hts hi_X5_least_5 hown hK hP 0 rfl rfl 1 (by decide) (hts (.fieldLink RX5 15 "TheLiningsInIt$Ways" "knownLeast" "[I") (List.mem_of_getElem? (i := 2) rfl)) (fun _ h9 => h9) rfl dX5_least_141 ?_
                      refine lv_iload hx hb dX5_least_144 (lv_at hl 2 rfl) ?_
                      refine lv_iload hx hb dX5_least_146 (lv_at hl 1 rfl) ?_
                      refine va_iast hx hb hK hP hD hS 1 0 rfl rfl (zf_in (by omega) (by omega)) dX5_least_148 (fun H locs hP hD hS => ?_)
                      obtain ⟨g_52, hg_52⟩ : ∃ g : Nat → Int32, g = upd g_48 x_43.toNatClampNeg v_49 := ⟨_, rfl⟩
                      rw [← hg_52] at hP hD
                      clear hg_52
                      have h9R := zRe (ws' := [(w0, .inr (5, [.ref wk, .ref wl, .ref wc, .ref wp, .int wn, .int wh, .int wg])), (wl, .inl (cI, 125, .inl g_52)), (wc, .inl (cI, 3, .inl fc)), (wp, .inl (cP, 8, .inr (.inr (.inr (.inr fp)))))]) hP hD rfl
                      clear hP hD
                      obtain ⟨hP, hD⟩ := h9R
                      refine lv_iload hx hb dX5_least_149 (lv_at hl 1 rfl) ?_
                      exact W.iret (v := v_49) hx hb hr (fun t ht hW => ⟨⟨v_49, g_52, rfl, trivial, zRet ht hP hD [0, 1, 2, 3] (by decide) rfl⟩, hS.F ht⟩) hS.2.2 dX5_least_151
                  · exfalso; have fc_50 : i_85.toInt < wn.toInt := zf_nle c_50 rfl rfl; omega
                | succ nfu ih =>
                  intro i_85 v_49 g_48 H locs ls hP hD hS hl hloi_85 hni_85
                  refine lv_iload hx hb dX5_least_85 (lv_at hl 0 rfl) ?_
                  refine lv_aload_n hx hb dX5_least_87 rfl (lv_at hl 4 rfl) ?_
                  refine va_get (D := D) (ci := 5) (v := .int wn) (C := RX5) (T := TX5) (N := 7) hx hb hts hi_X5_least_5 hown hK hP 0 rfl rfl 4 (by decide) (hts (.fieldLink RX5 27 "TheLiningsInIt$Ways" "count" "I") (List.mem_of_getElem? (i := 3) rfl)) (fun _ h9 => h9) rfl dX5_least_88 ?_
                  refine lv_icmp_ge (tgt := 135) hx hb dX5_least_91 (by decide) (fun c_53 => ?_) (fun c_53 => ?_)
                  · have fc_53 : wn.toInt ≤ i_85.toInt := zf_le c_53 rfl rfl
                    refine lv_iload hx hb dX5_least_135 (lv_at hl 3 rfl) ?_
                    refine lv_if_eq (tgt := 149) hx hb dX5_least_137 (by decide) (fun c_54 => ?_) (fun c_54 => ?_)
                    · exact absurd c_54 (by decide)
                    · refine lv_aload_n hx hb dX5_least_140 rfl (lv_at hl 4 rfl) ?_
                      refine va_get (D := D) (ci := 5) (v := .ref wl) (C := RX5) (T := TX5) (N := 7) hx hb hts hi_X5_least_5 hown hK hP 0 rfl rfl 1 (by decide) (hts (.fieldLink RX5 15 "TheLiningsInIt$Ways" "knownLeast" "[I") (List.mem_of_getElem? (i := 2) rfl)) (fun _ h9 => h9) rfl dX5_least_141 ?_
                      refine lv_iload hx hb dX5_least_144 (lv_at hl 2 rfl) ?_
                      refine lv_iload hx hb dX5_least_146 (lv_at hl 1 rfl) ?_
                      refine va_iast hx hb hK hP hD hS 1 0 rfl rfl (zf_in (by omega) (by omega)) dX5_least_148 (fun H locs hP hD hS => ?_)
                      obtain ⟨g_55, hg_55⟩ : ∃ g : Nat → Int32, g = upd g_48 x_43.toNatClampNeg v_49 := ⟨_, rfl⟩
                      rw [← hg_55] at hP hD
                      clear hg_55
                      have h9R := zRe (ws' := [(w0, .inr (5, [.ref wk, .ref wl, .ref wc, .ref wp, .int wn, .int wh, .int wg])), (wl, .inl (cI, 125, .inl g_55)), (wc, .inl (cI, 3, .inl fc)), (wp, .inl (cP, 8, .inr (.inr (.inr (.inr fp)))))]) hP hD rfl
                      clear hP hD
                      obtain ⟨hP, hD⟩ := h9R
                      refine lv_iload hx hb dX5_least_149 (lv_at hl 1 rfl) ?_
                      exact W.iret (v := v_49) hx hb hr (fun t ht hW => ⟨⟨v_49, g_55, rfl, trivial, zRet ht hP hD [0, 1, 2, 3] (by decide) rfl⟩, hS.F ht⟩) hS.2.2 dX5_least_151
                  · have fc_53 : i_85.toInt < wn.toInt := zf_nle c_53 rfl rfl
                    refine lv_iload_n hx hb dX5_least_94 rfl (lv_at hl 5 rfl) ?_
                    refine lv_if_le (tgt := 135) hx hb dX5_least_95 (by decide) (fun c_56 => ?_) (fun c_56 => ?_)
                    · exact absurd c_56 (by decide)
                    · refine lv_aload_n hx hb dX5_least_98 rfl (lv_at hl 4 rfl) ?_
                      refine lv_iload hx hb dX5_least_99 (lv_at hl 0 rfl) ?_
                      refine lv_iload_n hx hb dX5_least_101 rfl (lv_at hl 6 rfl) ?_
                      refine lv_iload_n hx hb dX5_least_102 rfl (lv_at hl 7 rfl) ?_
                      refine zc_Vq (As := [.int i_85, .int d, .int sec]) (rest := []) ⟨hx, hb, hml, hown, hts⟩ (c_W_mayBeAt l D cI cJ cZ cP cS po w0 wk wl wc wp (wn) (wh) (wg) fp (i_85) (d) (sec) hy0 hy1 hy2 hy3 hy4 hy5 hwp) (cwV 3 hts gX5_least_X5_mayBeAt rfl rfl rfl ⟨rfl, dh_X5_mayBeAt⟩ ⟨Nat.le_of_ble_eq_true rfl, Nat.le_of_ble_eq_true rfl⟩) hK hN (hZ.kept hS) hP (hP.sub [0, 3] rfl) (va_recv (q := (RX5, TX5, 7)) hK hP (ci := 5) (q0 := 0) rfl rfl) rfl hl.1 rfl (Nat.le_of_ble_eq_true rfl) dX5_least_103 ⟨Nat.le_of_ble_eq_true rfl, Nat.le_of_ble_eq_true rfl⟩ (fun r_57 hr_57 => ?_)
                      rcases hr_57 with ⟨rfl, g_58⟩ | ⟨rfl, g_59, g_60⟩ | ⟨rfl, g_61, g_62⟩ | ⟨rfl, g_63, g_64, g_65⟩ | ⟨rfl, g_66, g_67, g_68⟩ | ⟨⟨u_72, kiu_72, au_72, tu_72, rfl, huu_72⟩, g_69, g_70, g_71⟩
                      · exfalso; omega
                      · exfalso; omega
                      · refine lv_astoreN (lv' := [(8, .null), (7, .int i_85), (6, .int v_49), (5, .int x_43), (4, .int 1), (0, .ref w0), (1, .int 2), (2, .int d), (3, .int sec)]) hx hb dX5_least_106 hl (by decide) rfl (fun ls hl => ?_)
                        refine lv_aloadN hx hb dX5_least_108 (lv_at hl 0 rfl) ?_
                        refine lv_ifnullN (tgt := 129) hx hb dX5_least_110 (by decide) ?_
                        obtain ⟨x_73, ex_73⟩ : ∃ y : Int32, y = i_85 + 1 := ⟨_, rfl⟩
                        have qx_73 : x_73.toInt = i_85.toInt + 1 := dw_inc ex_73 fc_53
                        refine lv_iinc (v := x_73) (lv' := [(7, .int x_73), (8, .null), (6, .int v_49), (5, .int x_43), (4, .int 1), (0, .ref w0), (1, .int 2), (2, .int d), (3, .int sec)]) hx hb dX5_least_129 hl (k := 1) rfl ex_73.symm (by decide) rfl (fun ls hl => ?_)
                        refine lv_goto (tgt := 85) hx hb dX5_least_132 (by decide) ?_
                        exact ih x_73 v_49 (g_48) _ _ _ (hP.sub [0, 1, 2, 3] rfl) (hD.sub [0, 1, 2, 3] (by decide) rfl) hS (lv_sub hl [0, 2, 3, 4, 5, 6, 7, 8] rfl) (dw_lo hloi_85 qx_73) (dw_hn hni_85 qx_73)
                      · exfalso; omega
                      · refine lv_astoreN (lv' := [(8, .null), (7, .int i_85), (6, .int v_49), (5, .int x_43), (4, .int 1), (0, .ref w0), (1, .int 2), (2, .int d), (3, .int sec)]) hx hb dX5_least_106 hl (by decide) rfl (fun ls hl => ?_)
                        refine lv_aloadN hx hb dX5_least_108 (lv_at hl 0 rfl) ?_
                        refine lv_ifnullN (tgt := 129) hx hb dX5_least_110 (by decide) ?_
                        obtain ⟨x_74, ex_74⟩ : ∃ y : Int32, y = i_85 + 1 := ⟨_, rfl⟩
                        have qx_74 : x_74.toInt = i_85.toInt + 1 := dw_inc ex_74 fc_53
                        refine lv_iinc (v := x_74) (lv' := [(7, .int x_74), (8, .null), (6, .int v_49), (5, .int x_43), (4, .int 1), (0, .ref w0), (1, .int 2), (2, .int d), (3, .int sec)]) hx hb dX5_least_129 hl (k := 1) rfl ex_74.symm (by decide) rfl (fun ls hl => ?_)
                        refine lv_goto (tgt := 85) hx hb dX5_least_132 (by decide) ?_
                        exact ih x_74 v_49 (g_48) _ _ _ (hP.sub [0, 1, 2, 3] rfl) (hD.sub [0, 1, 2, 3] (by decide) rfl) hS (lv_sub hl [0, 2, 3, 4, 5, 6, 7, 8] rfl) (dw_lo hloi_85 qx_74) (dw_hn hni_85 qx_74)
                      · refine W.eq (g2 := F0 m 106 ls (.ref u_72 :: [])) rfl ?_
                        obtain ⟨hku_72, hau_72, htu_72⟩ := zPu_pr (hZ.kept hS) huu_72
                        refine lv_astore (lv' := [(8, .ref u_72), (7, .int i_85), (6, .int v_49), (5, .int x_43), (4, .int 1), (0, .ref w0), (1, .int 2), (2, .int d), (3, .int sec)]) hx hb dX5_least_106 hl (by decide) rfl (fun ls hl => ?_)
                        refine lv_aload hx hb dX5_least_108 (lv_at hl 0 rfl) ?_
                        refine lv_ifnull hx hb dX5_least_110 ?_
                        refine lv_iload hx hb dX5_least_113 (lv_at hl 2 rfl) ?_
                        refine lv_aload_n hx hb dX5_least_115 rfl (lv_at hl 5 rfl) ?_
                        refine lv_aload hx hb dX5_least_116 (lv_at hl 0 rfl) ?_
                        refine lv_iload_n hx hb dX5_least_118 rfl (lv_at hl 6 rfl) ?_
                        refine lv_iload_n hx hb dX5_least_119 rfl (lv_at hl 7 rfl) ?_
                        refine lv_iload_n hx hb dX5_least_120 rfl (lv_at hl 8 rfl) ?_
                        skip
                        refine zw_V (As := [.ref u_72, .int 2, .int d, .int sec]) (rest := [.int v_49]) (wr := []) ⟨hx, hb, hml, hown, hts⟩ (c_W_leastBy_2 l D cI cJ cZ cP cS po w0 wk wl wc wp (wn) (wh) (wg) fp g_48 fc (d) (sec) u_72 (kiu_72) (au_72) (tu_72) huu_72 ⟨by omega, by omega, by omega, by omega⟩ hy0 hy1 hy2 hy3 hy4 hy5 hwp hy7 hy8 hp_fc H.size) (cwV 4 hts gX5_least_X5_leastBy rfl rfl rfl ⟨rfl, dh_X5_leastBy⟩ ⟨Nat.le_of_ble_eq_true rfl, Nat.le_of_ble_eq_true rfl⟩) hK hN (hZ.kept hS) hP hD hS hA [0, 1, 2, 3] [] rfl rfl (by decide) (by decide) (by decide) (va_recv (q := (RX5, TX5, 7)) hK hP (ci := 5) (q0 := 0) rfl rfl) rfl hl.1 rfl (Nat.le_of_ble_eq_true rfl) dX5_least_121 ⟨Nat.le_of_ble_eq_true rfl, Nat.le_of_ble_eq_true rfl⟩ (fun r_75 u_76 H locs hr_75 hP hD hS => ?_)
                        obtain ⟨q_77, rfl⟩ : ∃ z, z = u_76 := ⟨_, rfl⟩
                        have h9R := zRe (ws' := [(w0, .inr (5, [.ref wk, .ref wl, .ref wc, .ref wp, .int wn, .int wh, .int wg])), (wl, .inl (cI, 125, .inl q_77)), (wc, .inl (cI, 3, .inl fc)), (wp, .inl (cP, 8, .inr (.inr (.inr (.inr fp)))))]) hP hD rfl
                        clear hP hD
                        obtain ⟨hP, hD⟩ := h9R
                        refine va_mmin hx hb (hml.trans hl.1.symm) hown (hts (.methodLink RX5 110 Lib.Math.min.name) (List.mem_of_getElem? (i := 4) rfl)) (hts _ (List.mem_of_getElem? (i := 5) rfl)) (hts _ (List.mem_of_getElem? (i := 6) rfl)) (hts _ (List.mem_of_getElem? (i := 7) rfl)) (Nat.le_of_ble_eq_true rfl) (Nat.le_of_ble_eq_true rfl) (Nat.le_of_ble_eq_true rfl) (Nat.le_of_ble_eq_true rfl) dX5_least_124 ?_
                        refine lv_topi (fun x_78 ex_78 => ?_)
                        have qx_78 := zf_min ex_78 (x1 := v_49.toInt) (y1 := r_75.toInt) rfl rfl
                        refine lv_istore (lv' := [(6, .int x_78), (8, .ref u_72), (7, .int i_85), (5, .int x_43), (4, .int 1), (0, .ref w0), (1, .int 2), (2, .int d), (3, .int sec)]) hx hb dX5_least_127 hl (by decide) rfl (fun ls hl => ?_)
                        obtain ⟨x_79, ex_79⟩ : ∃ y : Int32, y = i_85 + 1 := ⟨_, rfl⟩
                        have qx_79 : x_79.toInt = i_85.toInt + 1 := dw_inc ex_79 fc_53
                        refine lv_iinc (v := x_79) (lv' := [(7, .int x_79), (6, .int x_78), (8, .ref u_72), (5, .int x_43), (4, .int 1), (0, .ref w0), (1, .int 2), (2, .int d), (3, .int sec)]) hx hb dX5_least_129 hl (k := 2) rfl ex_79.symm (by decide) rfl (fun ls hl => ?_)
                        refine lv_goto (tgt := 85) hx hb dX5_least_132 (by decide) ?_
                        exact ih x_79 x_78 (q_77) _ _ _ (hP.sub [0, 1, 2, 3] rfl) (hD.sub [0, 1, 2, 3] (by decide) rfl) hS (lv_sub hl [0, 1, 3, 4, 5, 6, 7, 8] rfl) (dw_lo hloi_85 qx_79) (dw_hn hni_85 qx_79)
              · have fc_46 : x_45.toInt ≠ (-1) := zf_ne c_46 rfl (by decide)
                refine lv_aload_n hx hb dX5_least_66 rfl (lv_at hl 2 rfl) ?_
                refine va_get (D := D) (ci := 5) (v := .ref wl) (C := RX5) (T := TX5) (N := 7) hx hb hts hi_X5_least_5 hown hK hP 0 rfl rfl 1 (by decide) (hts (.fieldLink RX5 15 "TheLiningsInIt$Ways" "knownLeast" "[I") (List.mem_of_getElem? (i := 2) rfl)) (fun _ h9 => h9) rfl dX5_least_67 ?_
                refine lv_iload hx hb dX5_least_70 (lv_at hl 0 rfl) ?_
                refine va_iald hx hb hK hP 1 0 rfl rfl (zf_in (by omega) (by omega)) dX5_least_72 ?_
                refine lv_topi (fun x_80 ex_80 => ?_)
                exact W.iret (v := x_80) hx hb hr (fun t ht hW => ⟨⟨x_80, fl, rfl, trivial, zRet ht hP hD [0, 1, 2, 3] (by decide) rfl⟩, hS.F ht⟩) hS.2.2 dX5_least_73
        · exfalso; have fc_4 : 24 < d.toInt := zf_nle c_4 rfl (by decide); omega
set_option maxHeartbeats 4000000 in
set_option maxRecDepth 100000 in
theorem c_W_leastBy_3 (l : Launch) (D : va_G) (cI cJ cZ cP cS : ClassId) (po : zPool) (w0 wk wl wc wp : Nat) (wn wh wg : Int32) (fp : Nat → Option Nat) (fl fc : Nat → Int32) (d sec : Int32) (u0 : Nat) (ki a_ ta : Int32) (hu_u0 : zPu po u0 ki a_ ta) (hr_u0 : zPr ki a_ ta) (hy2 : 0 ≤ wn.toInt) (hy3 : wn.toInt ≤ 8) (hy4 : 0 ≤ wh.toInt) (hy5 : wh.toInt ≤ 9) (hy6 : 0 ≤ wg.toInt) (hy7 : wg.toInt ≤ 60) (hwp : zWP po fp) (hy9 : 0 ≤ d.toInt) (hy10 : d.toInt ≤ 24) (hp_fc : zRg fc (0) 99) (hpz : Nat) : Met l yX5_leastBy wsX5_leastBy ({ frames := 7, cells := 0, slots := 0, locals := 181 }) (va_Pc [.ref w0, .ref u0, .int 3, .int d, .int sec] (zW D (zKT cI cJ cZ cP cS) po [(w0, .inr (5, [.ref wk, .ref wl, .ref wc, .ref wp, .int wn, .int wh, .int wg])), (wl, .inl (cI, 125, .inl fl)), (wc, .inl (cI, 3, .inl fc)), (wp, .inl (cP, 8, .inr (.inr (.inr (.inr fp)))))] hpz)) (va_Qi (fun (r : Int32) (fl2 : (Nat → Int32)) => True) (zB D [(w0, .inr (5, [.ref wk, .ref wl, .ref wc, .ref wp, .int wn, .int wh, .int wg])), (wl, .inl (cI, 125, .inl fl)), (wc, .inl (cI, 3, .inl fc)), (wp, .inl (cP, 8, .inr (.inr (.inr (.inr fp)))))] hpz (fun (fl2 : Nat → Int32) => [(w0, .inr (5, [.ref wk, .ref wl, .ref wc, .ref wp, .int wn, .int wh, .int wg])), (wl, .inl (cI, 125, .inl fl2)), (wc, .inl (cI, 3, .inl fc)), (wp, .inl (cP, 8, .inr (.inr (.inr (.inr fp)))))])) (va_A [(w0, .inr (5, [.ref wk, .ref wl, .ref wc, .ref wp, .int wn, .int wh, .int wg])), (wl, .inl (cI, 125, .inl fl)), (wc, .inl (cI, 3, .inl fc)), (wp, .inl (cP, 8, .inr (.inr (.inr (.inr fp)))))] hpz)) 0 0 (va_A [(w0, .inr (5, [.ref wk, .ref wl, .ref wc, .ref wp, .int wn, .int wh, .int wg])), (wl, .inl (cI, 125, .inl fl)), (wc, .inl (cI, 3, .inl fc)), (wp, .inl (cP, 8, .inr (.inr (.inr (.inr fp)))))] hpz) := by
  refine Met.ofW (cc := cX5_leastBy) (maxL := 8) (ret := (some .int)) (by decide) rfl ?_
  intro p e s m args below meth c s₁ B hml hv
  obtain ⟨rfl, hsz, hP, hK, hD0, hN, hZ⟩ := hv
  have hx := B.exec
  have hb := B.bytes
  have hr := B.returns
  have hts := atoms_spec (ws := wsX5_leastBy) B.pre
  have hown : s.vm.findClass RX5 = some m.cls := findClass_of_methodNamed B.named
  have hlocks := B.notSynchronized
  subst hsz
  have hD := hD0.self (sz := s.heap.size)
  have hA := zA_of hD
  have hl := lv_entry ([.ref w0, .ref u0, .int 3, .int d, .int sec]) (n := 8) (Nat.le_of_ble_eq_true rfl)
  rw [lg_entry_eq]
  generalize (lg_sl ([.ref w0, .ref u0, .int 3, .int d, .int sec]) ++ List.replicate (8 - (lg_sl ([.ref w0, .ref u0, .int 3, .int d, .int sec])).length) Slot.unset).toArray = ls at hl ⊢
  replace hl : lv_has ls 8 [(0, .ref w0), (1, .ref u0), (2, .int 3), (3, .int d), (4, .int sec)] := hl
  refine zw_begin hP hD (fun H locs hP1 hS => ?_)
  clear hP
  have hP := hP1
  clear hP1
  obtain ⟨⟨p1_u0, p2_u0⟩, ⟨p3_u0, p4_u0⟩, p5_u0, p6_u0⟩ := id hr_u0
  refine lv_aload_n hx hb dX5_leastBy_0 rfl (lv_at hl 1 rfl) ?_
  refine lv_iload_n hx hb dX5_leastBy_1 rfl (lv_at hl 3 rfl) ?_
  refine lv_aload_n hx hb dX5_leastBy_2 rfl (lv_at hl 0 rfl) ?_
  refine va_get (D := D) (ci := 5) (v := .int wh) (C := RX5) (T := TX5) (N := 7) hx hb hts hi_X5_leastBy_5 hown hK hP 0 rfl rfl 5 (by decide) (hts (.fieldLink RX5 31 "TheLiningsInIt$Ways" "hurry" "I") (List.mem_of_getElem? (i := 1) rfl)) (fun _ h9 => h9) rfl dX5_leastBy_3 ?_
  refine zc_V (As := [.int d, .int wh]) (rest := []) ⟨hx, hb, hml, hown, hts⟩ (c_Pull_waysAt l D cI cJ cZ cP cS po (d) (wh) u0 (ki) (a_) (ta) hu_u0 ⟨by omega, by omega, by omega, by omega⟩ hy9 hy10 hy4 hy5) (cwV 2 hts gX5_leastBy_X2_waysAt rfl rfl rfl ⟨rfl, dh_X2_waysAt⟩ ⟨Nat.le_of_ble_eq_true rfl, Nat.le_of_ble_eq_true rfl⟩) hK hN (hZ.kept hS) hP zP_nil (va_recv (q := (RX2, TX2, 3)) hK (zPu_P (hZ.kept hS) hu_u0) (ci := 2) (q0 := 0) rfl rfl) rfl hl.1 rfl (Nat.le_of_ble_eq_true rfl) dX5_leastBy_6 ⟨Nat.le_of_ble_eq_true rfl, Nat.le_of_ble_eq_true rfl⟩ (fun r_1 hr_1 => ?_)
  obtain ⟨g_2, g_3⟩ := hr_1
  refine lv_istore (lv' := [(5, .int r_1), (0, .ref w0), (1, .ref u0), (2, .int 3), (3, .int d), (4, .int sec)]) hx hb dX5_leastBy_9 hl (by decide) rfl (fun ls hl => ?_)
  refine lv_iload hx hb dX5_leastBy_11 (lv_at hl 5 rfl) ?_
  refine lv_aload_n hx hb dX5_leastBy_13 rfl (lv_at hl 2 rfl) ?_
  refine va_get (D := D) (ci := 2) (v := .int ta) (C := RX2) (T := TX2) (N := 3) hx hb hts hi_X5_leastBy_2 hown hK (zPu_P (hZ.kept hS) hu_u0) 0 rfl rfl 2 (by decide) (hts (.fieldLink RX5 49 "TheLiningsInIt$Pull" "takes" "I") (List.mem_of_getElem? (i := 2) rfl)) (fun _ h9 => h9) rfl dX5_leastBy_14 ?_
  refine lv_isub hx hb dX5_leastBy_17 ?_
  refine lv_topi (fun x_4 ex_4 => ?_)
  refine lv_istore (lv' := [(6, .int x_4), (5, .int r_1), (0, .ref w0), (1, .ref u0), (2, .int 3), (3, .int d), (4, .int sec)]) hx hb dX5_leastBy_18 hl (by decide) rfl (fun ls hl => ?_)
  refine lv_aload_n hx hb dX5_leastBy_20 rfl (lv_at hl 3 rfl) ?_
  refine va_get (D := D) (ci := 2) (v := .int ki) (C := RX2) (T := TX2) (N := 3) hx hb hts hi_X5_leastBy_2 hown hK (zPu_P (hZ.kept hS) hu_u0) 0 rfl rfl 0 (by decide) (hts (.fieldLink RX5 46 "TheLiningsInIt$Pull" "kind" "I") (List.mem_of_getElem? (i := 3) rfl)) (fun _ h9 => h9) rfl dX5_leastBy_21 ?_
  refine lv_iconst (v := 5) hx hb dX5_leastBy_24 (by decide) ?_
  refine lv_icmp_ne (tgt := 43) hx hb dX5_leastBy_25 (by decide) (fun c_5 => ?_) (fun c_5 => ?_)
  · have fc_5 : ki.toInt ≠ 5 := zf_ne c_5 rfl (by decide)
    refine lv_iconst (v := 0) hx hb dX5_leastBy_43 (by decide) ?_
    refine lv_istore (lv' := [(7, .int 0), (6, .int x_4), (5, .int r_1), (0, .ref w0), (1, .ref u0), (2, .int 3), (3, .int d), (4, .int sec)]) hx hb dX5_leastBy_44 hl (by decide) rfl (fun ls hl => ?_)
    refine lv_iload hx hb dX5_leastBy_46 (lv_at hl 2 rfl) ?_
    refine lv_if_le (tgt := 73) hx hb dX5_leastBy_48 (by decide) (fun c_6 => ?_) (fun c_6 => ?_)
    · have fc_6 : r_1.toInt ≤ 0 := zf_le c_6 rfl (by decide)
      refine lv_iload hx hb dX5_leastBy_73 (lv_at hl 2 rfl) ?_
      refine lv_bipush (v := 12) hx hb dX5_leastBy_75 (by decide) ?_
      refine lv_icmp_ge (tgt := 109) hx hb dX5_leastBy_77 (by decide) (fun c_7 => ?_) (fun c_7 => ?_)
      · exfalso; have fc_7 : 12 ≤ r_1.toInt := zf_le c_7 (by decide) rfl; omega
      · have fc_7 : r_1.toInt < 12 := zf_nle c_7 (by decide) rfl
        refine lv_iload hx hb dX5_leastBy_80 (lv_at hl 0 rfl) ?_
        refine lv_bipush (v := 12) hx hb dX5_leastBy_82 (by decide) ?_
        refine lv_iload hx hb dX5_leastBy_84 (lv_at hl 2 rfl) ?_
        refine lv_isub hx hb dX5_leastBy_86 ?_
        refine lv_topi (fun x_8 ex_8 => ?_)
        have qx_8 : x_8.toInt = 12 - r_1.toInt := by rw [ex_8]; exact zf_sub (by decide) rfl (by omega) (by omega)
        refine lv_aload_n hx hb dX5_leastBy_87 rfl (lv_at hl 3 rfl) ?_
        refine lv_iload_n hx hb dX5_leastBy_88 rfl (lv_at hl 5 rfl) ?_
        refine lv_iconst (v := 1) hx hb dX5_leastBy_89 (by decide) ?_
        refine lv_isub hx hb dX5_leastBy_90 ?_
        refine lv_topi (fun y_9 ey_9 => ?_)
        obtain rfl : y_9 = 2 := ey_9.trans (by decide)
        refine lv_aload_n hx hb dX5_leastBy_91 rfl (lv_at hl 4 rfl) ?_
        refine lv_iload_n hx hb dX5_leastBy_92 rfl (lv_at hl 6 rfl) ?_
        refine lv_aload_n hx hb dX5_leastBy_93 rfl (lv_at hl 3 rfl) ?_
        refine va_get (D := D) (ci := 5) (v := .int wh) (C := RX5) (T := TX5) (N := 7) hx hb hts hi_X5_leastBy_5 hown hK hP 0 rfl rfl 5 (by decide) (hts (.fieldLink RX5 31 "TheLiningsInIt$Ways" "hurry" "I") (List.mem_of_getElem? (i := 1) rfl)) (fun _ h9 => h9) rfl dX5_leastBy_94 ?_
        refine zc_V (As := [.int d, .int wh]) (rest := [.int 2, .ref w0, .int x_8, .int 0]) ⟨hx, hb, hml, hown, hts⟩ (c_Pull_deeper l D cI cJ cZ cP cS po (d) (wh) u0 (ki) (a_) (ta) hu_u0 ⟨by omega, by omega, by omega, by omega⟩ hy9 hy10 hy4 hy5) (cwV 2 hts gX5_leastBy_X2_deeper rfl rfl rfl ⟨rfl, dh_X2_deeper⟩ ⟨Nat.le_of_ble_eq_true rfl, Nat.le_of_ble_eq_true rfl⟩) hK hN (hZ.kept hS) hP zP_nil (va_recv (q := (RX2, TX2, 3)) hK (zPu_P (hZ.kept hS) hu_u0) (ci := 2) (q0 := 0) rfl rfl) rfl hl.1 rfl (Nat.le_of_ble_eq_true rfl) dX5_leastBy_97 ⟨Nat.le_of_ble_eq_true rfl, Nat.le_of_ble_eq_true rfl⟩ (fun r_10 hr_10 => ?_)
        obtain ⟨g_11, g_12⟩ := hr_10
        refine lv_iload hx hb dX5_leastBy_100 (lv_at hl 1 rfl) ?_
        skip
        refine zw_V (As := [.int 2, .int r_10, .int x_4]) (rest := [.int x_8, .int 0]) (wr := []) ⟨hx, hb, hml, hown, hts⟩ (c_W_least_2 l D cI cJ cZ cP cS po w0 wk wl wc wp (wn) (wh) (wg) fp fl fc (r_10) (x_4) hy2 hy3 hy4 hy5 hy6 hy7 hwp (by omega) (by omega) hp_fc H.size) (cwV 3 hts gX5_leastBy_X5_least rfl rfl rfl ⟨rfl, dh_X5_least⟩ ⟨Nat.le_of_ble_eq_true rfl, Nat.le_of_ble_eq_true rfl⟩) hK hN (hZ.kept hS) hP hD hS hA [0, 1, 2, 3] [] rfl rfl (by decide) (by decide) (by decide) (va_recv (q := (RX5, TX5, 7)) hK hP (ci := 5) (q0 := 0) rfl rfl) rfl hl.1 rfl (Nat.le_of_ble_eq_true rfl) dX5_leastBy_102 ⟨Nat.le_of_ble_eq_true rfl, Nat.le_of_ble_eq_true rfl⟩ (fun r_13 u_14 H locs hr_13 hP hD hS => ?_)
        obtain ⟨q_15, rfl⟩ : ∃ z, z = u_14 := ⟨_, rfl⟩
        have h9R := zRe (ws' := [(w0, .inr (5, [.ref wk, .ref wl, .ref wc, .ref wp, .int wn, .int wh, .int wg])), (wl, .inl (cI, 125, .inl q_15)), (wc, .inl (cI, 3, .inl fc)), (wp, .inl (cP, 8, .inr (.inr (.inr (.inr fp)))))]) hP hD rfl
        clear hP hD
        obtain ⟨hP, hD⟩ := h9R
        refine lv_imul hx hb dX5_leastBy_105 ?_
        refine lv_topi (fun x_16 ex_16 => ?_)
        refine lv_iadd hx hb dX5_leastBy_106 ?_
        refine lv_topi (fun x_17 ex_17 => ?_)
        have rbx_17 := zf_rng x_16
        have qx_17 : x_17.toInt = 0 + x_16.toInt := by rw [ex_17]; exact zf_add (by decide) rfl (by omega) (by omega)
        refine lv_istore (lv' := [(7, .int x_17), (6, .int x_4), (5, .int r_1), (0, .ref w0), (1, .ref u0), (2, .int 3), (3, .int d), (4, .int sec)]) hx hb dX5_leastBy_107 hl (by decide) rfl (fun ls hl => ?_)
        refine lv_iload hx hb dX5_leastBy_109 (lv_at hl 0 rfl) ?_
        exact W.iret (v := x_17) hx hb hr (fun t ht hW => ⟨⟨x_17, q_15, rfl, trivial, zRet ht hP hD [0, 1, 2, 3] (by decide) rfl⟩, hS.F ht⟩) hS.2.2 dX5_leastBy_111
    · have fc_6 : 0 < r_1.toInt := zf_nle c_6 rfl (by decide)
      refine lv_iload hx hb dX5_leastBy_51 (lv_at hl 0 rfl) ?_
      refine lv_iload hx hb dX5_leastBy_53 (lv_at hl 2 rfl) ?_
      refine lv_aload_n hx hb dX5_leastBy_55 rfl (lv_at hl 3 rfl) ?_
      refine lv_iload_n hx hb dX5_leastBy_56 rfl (lv_at hl 5 rfl) ?_
      refine lv_iconst (v := 1) hx hb dX5_leastBy_57 (by decide) ?_
      refine lv_isub hx hb dX5_leastBy_58 ?_
      refine lv_topi (fun y_18 ey_18 => ?_)
      obtain rfl : y_18 = 2 := ey_18.trans (by decide)
      refine lv_aload_n hx hb dX5_leastBy_59 rfl (lv_at hl 4 rfl) ?_
      refine lv_iload_n hx hb dX5_leastBy_60 rfl (lv_at hl 6 rfl) ?_
      refine zc_V (As := [.int d]) (rest := [.int 2, .ref w0, .int r_1, .int 0]) ⟨hx, hb, hml, hown, hts⟩ (c_Pull_shallower l D cI cJ cZ cP cS po (d) u0 (ki) (a_) (ta) hu_u0 ⟨by omega, by omega, by omega, by omega⟩ hy9 hy10) (cwV 1 hts gX5_leastBy_X2_shallower rfl rfl rfl ⟨rfl, dh_X2_shallower⟩ ⟨Nat.le_of_ble_eq_true rfl, Nat.le_of_ble_eq_true rfl⟩) hK hN (hZ.kept hS) hP zP_nil (va_recv (q := (RX2, TX2, 3)) hK (zPu_P (hZ.kept hS) hu_u0) (ci := 2) (q0 := 0) rfl rfl) rfl hl.1 rfl (Nat.le_of_ble_eq_true rfl) dX5_leastBy_61 ⟨Nat.le_of_ble_eq_true rfl, Nat.le_of_ble_eq_true rfl⟩ (fun r_19 hr_19 => ?_)
      obtain ⟨g_20, g_21⟩ := hr_19
      refine lv_iload hx hb dX5_leastBy_64 (lv_at hl 1 rfl) ?_
      skip
      refine zw_V (As := [.int 2, .int r_19, .int x_4]) (rest := [.int r_1, .int 0]) (wr := []) ⟨hx, hb, hml, hown, hts⟩ (c_W_least_2 l D cI cJ cZ cP cS po w0 wk wl wc wp (wn) (wh) (wg) fp fl fc (r_19) (x_4) hy2 hy3 hy4 hy5 hy6 hy7 hwp (by omega) (by omega) hp_fc H.size) (cwV 3 hts gX5_leastBy_X5_least rfl rfl rfl ⟨rfl, dh_X5_least⟩ ⟨Nat.le_of_ble_eq_true rfl, Nat.le_of_ble_eq_true rfl⟩) hK hN (hZ.kept hS) hP hD hS hA [0, 1, 2, 3] [] rfl rfl (by decide) (by decide) (by decide) (va_recv (q := (RX5, TX5, 7)) hK hP (ci := 5) (q0 := 0) rfl rfl) rfl hl.1 rfl (Nat.le_of_ble_eq_true rfl) dX5_leastBy_66 ⟨Nat.le_of_ble_eq_true rfl, Nat.le_of_ble_eq_true rfl⟩ (fun r_22 u_23 H locs hr_22 hP hD hS => ?_)
      obtain ⟨q_24, rfl⟩ : ∃ z, z = u_23 := ⟨_, rfl⟩
      have h9R := zRe (ws' := [(w0, .inr (5, [.ref wk, .ref wl, .ref wc, .ref wp, .int wn, .int wh, .int wg])), (wl, .inl (cI, 125, .inl q_24)), (wc, .inl (cI, 3, .inl fc)), (wp, .inl (cP, 8, .inr (.inr (.inr (.inr fp)))))]) hP hD rfl
      clear hP hD
      obtain ⟨hP, hD⟩ := h9R
      refine lv_imul hx hb dX5_leastBy_69 ?_
      refine lv_topi (fun x_25 ex_25 => ?_)
      refine lv_iadd hx hb dX5_leastBy_70 ?_
      refine lv_topi (fun x_26 ex_26 => ?_)
      have rbx_26 := zf_rng x_25
      have qx_26 : x_26.toInt = 0 + x_25.toInt := by rw [ex_26]; exact zf_add (by decide) rfl (by omega) (by omega)
      refine lv_istore (lv' := [(7, .int x_26), (6, .int x_4), (5, .int r_1), (0, .ref w0), (1, .ref u0), (2, .int 3), (3, .int d), (4, .int sec)]) hx hb dX5_leastBy_71 hl (by decide) rfl (fun ls hl => ?_)
      refine lv_iload hx hb dX5_leastBy_73 (lv_at hl 2 rfl) ?_
      refine lv_bipush (v := 12) hx hb dX5_leastBy_75 (by decide) ?_
      refine lv_icmp_ge (tgt := 109) hx hb dX5_leastBy_77 (by decide) (fun c_27 => ?_) (fun c_27 => ?_)
      · have fc_27 : 12 ≤ r_1.toInt := zf_le c_27 (by decide) rfl
        refine lv_iload hx hb dX5_leastBy_109 (lv_at hl 0 rfl) ?_
        exact W.iret (v := x_26) hx hb hr (fun t ht hW => ⟨⟨x_26, q_24, rfl, trivial, zRet ht hP hD [0, 1, 2, 3] (by decide) rfl⟩, hS.F ht⟩) hS.2.2 dX5_leastBy_111
      · have fc_27 : r_1.toInt < 12 := zf_nle c_27 (by decide) rfl
        refine lv_iload hx hb dX5_leastBy_80 (lv_at hl 0 rfl) ?_
        refine lv_bipush (v := 12) hx hb dX5_leastBy_82 (by decide) ?_
        refine lv_iload hx hb dX5_leastBy_84 (lv_at hl 2 rfl) ?_
        refine lv_isub hx hb dX5_leastBy_86 ?_
        refine lv_topi (fun x_28 ex_28 => ?_)
        have qx_28 : x_28.toInt = 12 - r_1.toInt := by rw [ex_28]; exact zf_sub (by decide) rfl (by omega) (by omega)
        refine lv_aload_n hx hb dX5_leastBy_87 rfl (lv_at hl 3 rfl) ?_
        refine lv_iload_n hx hb dX5_leastBy_88 rfl (lv_at hl 5 rfl) ?_
        refine lv_iconst (v := 1) hx hb dX5_leastBy_89 (by decide) ?_
        refine lv_isub hx hb dX5_leastBy_90 ?_
        refine lv_topi (fun y_29 ey_29 => ?_)
        obtain rfl : y_29 = 2 := ey_29.trans (by decide)
        refine lv_aload_n hx hb dX5_leastBy_91 rfl (lv_at hl 4 rfl) ?_
        refine lv_iload_n hx hb dX5_leastBy_92 rfl (lv_at hl 6 rfl) ?_
        refine lv_aload_n hx hb dX5_leastBy_93 rfl (lv_at hl 3 rfl) ?_
        refine va_get (D := D) (ci := 5) (v := .int wh) (C := RX5) (T := TX5) (N := 7) hx hb hts hi_X5_leastBy_5 hown hK hP 0 rfl rfl 5 (by decide) (hts (.fieldLink RX5 31 "TheLiningsInIt$Ways" "hurry" "I") (List.mem_of_getElem? (i := 1) rfl)) (fun _ h9 => h9) rfl dX5_leastBy_94 ?_
        refine zc_V (As := [.int d, .int wh]) (rest := [.int 2, .ref w0, .int x_28, .int x_26]) ⟨hx, hb, hml, hown, hts⟩ (c_Pull_deeper l D cI cJ cZ cP cS po (d) (wh) u0 (ki) (a_) (ta) hu_u0 ⟨by omega, by omega, by omega, by omega⟩ hy9 hy10 hy4 hy5) (cwV 2 hts gX5_leastBy_X2_deeper rfl rfl rfl ⟨rfl, dh_X2_deeper⟩ ⟨Nat.le_of_ble_eq_true rfl, Nat.le_of_ble_eq_true rfl⟩) hK hN (hZ.kept hS) hP zP_nil (va_recv (q := (RX2, TX2, 3)) hK (zPu_P (hZ.kept hS) hu_u0) (ci := 2) (q0 := 0) rfl rfl) rfl hl.1 rfl (Nat.le_of_ble_eq_true rfl) dX5_leastBy_97 ⟨Nat.le_of_ble_eq_true rfl, Nat.le_of_ble_eq_true rfl⟩ (fun r_30 hr_30 => ?_)
        obtain ⟨g_31, g_32⟩ := hr_30
        refine lv_iload hx hb dX5_leastBy_100 (lv_at hl 1 rfl) ?_
        skip
        refine zw_V (As := [.int 2, .int r_30, .int x_4]) (rest := [.int x_28, .int x_26]) (wr := []) ⟨hx, hb, hml, hown, hts⟩ (c_W_least_2 l D cI cJ cZ cP cS po w0 wk wl wc wp (wn) (wh) (wg) fp q_24 fc (r_30) (x_4) hy2 hy3 hy4 hy5 hy6 hy7 hwp (by omega) (by omega) hp_fc H.size) (cwV 3 hts gX5_leastBy_X5_least rfl rfl rfl ⟨rfl, dh_X5_least⟩ ⟨Nat.le_of_ble_eq_true rfl, Nat.le_of_ble_eq_true rfl⟩) hK hN (hZ.kept hS) hP hD hS hA [0, 1, 2, 3] [] rfl rfl (by decide) (by decide) (by decide) (va_recv (q := (RX5, TX5, 7)) hK hP (ci := 5) (q0 := 0) rfl rfl) rfl hl.1 rfl (Nat.le_of_ble_eq_true rfl) dX5_leastBy_102 ⟨Nat.le_of_ble_eq_true rfl, Nat.le_of_ble_eq_true rfl⟩ (fun r_33 u_34 H locs hr_33 hP hD hS => ?_)
        obtain ⟨q_35, rfl⟩ : ∃ z, z = u_34 := ⟨_, rfl⟩
        have h9R := zRe (ws' := [(w0, .inr (5, [.ref wk, .ref wl, .ref wc, .ref wp, .int wn, .int wh, .int wg])), (wl, .inl (cI, 125, .inl q_35)), (wc, .inl (cI, 3, .inl fc)), (wp, .inl (cP, 8, .inr (.inr (.inr (.inr fp)))))]) hP hD rfl
        clear hP hD
        obtain ⟨hP, hD⟩ := h9R
        refine lv_imul hx hb dX5_leastBy_105 ?_
        refine lv_topi (fun x_36 ex_36 => ?_)
        refine lv_iadd hx hb dX5_leastBy_106 ?_
        refine lv_topi (fun x_37 ex_37 => ?_)
        refine lv_istore (lv' := [(7, .int x_37), (6, .int x_4), (5, .int r_1), (0, .ref w0), (1, .ref u0), (2, .int 3), (3, .int d), (4, .int sec)]) hx hb dX5_leastBy_107 hl (by decide) rfl (fun ls hl => ?_)
        refine lv_iload hx hb dX5_leastBy_109 (lv_at hl 0 rfl) ?_
        exact W.iret (v := x_37) hx hb hr (fun t ht hW => ⟨⟨x_37, q_35, rfl, trivial, zRet ht hP hD [0, 1, 2, 3] (by decide) rfl⟩, hS.F ht⟩) hS.2.2 dX5_leastBy_111
  · have fc_5 : ki.toInt = 5 := zf_eq c_5 rfl (by decide)
    obtain ⟨t_38, zt_38, yt_38⟩ := hZ.1.1
    refine va_gets hx hb zt_38 hS hown (hts (.fieldLink RX5 79 "TheLiningsInIt$Ways" "POWERS" "[I") (List.mem_of_getElem? (i := 4) rfl)) (fun _ h9 => h9) dX5_leastBy_28 ?_
    refine lv_iload_n hx hb dX5_leastBy_31 rfl (lv_at hl 4 rfl) ?_
    refine va_ti hx hb yt_38 hS (zf_in (by decide) (by decide)) (v := .int 1728) (by decide) dX5_leastBy_32 ?_
    refine lv_aload_n hx hb dX5_leastBy_33 rfl (lv_at hl 2 rfl) ?_
    refine va_get (D := D) (ci := 5) (v := .ref wc) (C := RX5) (T := TX5) (N := 7) hx hb hts hi_X5_leastBy_5 hown hK hP 0 rfl rfl 2 (by decide) (hts (.fieldLink RX5 18 "TheLiningsInIt$Ways" "costs" "[I") (List.mem_of_getElem? (i := 5) rfl)) (fun _ h9 => h9) rfl dX5_leastBy_34 ?_
    refine lv_iconst (v := 0) hx hb dX5_leastBy_37 (by decide) ?_
    refine va_iald hx hb hK hP 2 0 rfl rfl (zf_in (by decide) (by decide)) dX5_leastBy_38 ?_
    refine lv_topi (fun x_39 ex_39 => ?_)
    have bx_39 : 0 ≤ x_39.toInt ∧ x_39.toInt ≤ 99 := by rw [ex_39]; exact hp_fc _
    refine lv_imul hx hb dX5_leastBy_39 ?_
    refine lv_topi (fun x_40 ex_40 => ?_)
    have qx_40 : x_40.toInt = 1728 * x_39.toInt := by rw [ex_40]; exact zf_mul (by decide) rfl (by omega) (by omega)
    refine lv_goto (tgt := 44) hx hb dX5_leastBy_40 (by decide) ?_
    refine lv_istore (lv' := [(7, .int x_40), (6, .int x_4), (5, .int r_1), (0, .ref w0), (1, .ref u0), (2, .int 3), (3, .int d), (4, .int sec)]) hx hb dX5_leastBy_44 hl (by decide) rfl (fun ls hl => ?_)
    refine lv_iload hx hb dX5_leastBy_46 (lv_at hl 2 rfl) ?_
    refine lv_if_le (tgt := 73) hx hb dX5_leastBy_48 (by decide) (fun c_41 => ?_) (fun c_41 => ?_)
    · have fc_41 : r_1.toInt ≤ 0 := zf_le c_41 rfl (by decide)
      refine lv_iload hx hb dX5_leastBy_73 (lv_at hl 2 rfl) ?_
      refine lv_bipush (v := 12) hx hb dX5_leastBy_75 (by decide) ?_
      refine lv_icmp_ge (tgt := 109) hx hb dX5_leastBy_77 (by decide) (fun c_42 => ?_) (fun c_42 => ?_)
      · exfalso; have fc_42 : 12 ≤ r_1.toInt := zf_le c_42 (by decide) rfl; omega
      · have fc_42 : r_1.toInt < 12 := zf_nle c_42 (by decide) rfl
        refine lv_iload hx hb dX5_leastBy_80 (lv_at hl 0 rfl) ?_
        refine lv_bipush (v := 12) hx hb dX5_leastBy_82 (by decide) ?_
        refine lv_iload hx hb dX5_leastBy_84 (lv_at hl 2 rfl) ?_
        refine lv_isub hx hb dX5_leastBy_86 ?_
        refine lv_topi (fun x_43 ex_43 => ?_)
        have qx_43 : x_43.toInt = 12 - r_1.toInt := by rw [ex_43]; exact zf_sub (by decide) rfl (by omega) (by omega)
        refine lv_aload_n hx hb dX5_leastBy_87 rfl (lv_at hl 3 rfl) ?_
        refine lv_iload_n hx hb dX5_leastBy_88 rfl (lv_at hl 5 rfl) ?_
        refine lv_iconst (v := 1) hx hb dX5_leastBy_89 (by decide) ?_
        refine lv_isub hx hb dX5_leastBy_90 ?_
        refine lv_topi (fun y_44 ey_44 => ?_)
        obtain rfl : y_44 = 2 := ey_44.trans (by decide)
        refine lv_aload_n hx hb dX5_leastBy_91 rfl (lv_at hl 4 rfl) ?_
        refine lv_iload_n hx hb dX5_leastBy_92 rfl (lv_at hl 6 rfl) ?_
        refine lv_aload_n hx hb dX5_leastBy_93 rfl (lv_at hl 3 rfl) ?_
        refine va_get (D := D) (ci := 5) (v := .int wh) (C := RX5) (T := TX5) (N := 7) hx hb hts hi_X5_leastBy_5 hown hK hP 0 rfl rfl 5 (by decide) (hts (.fieldLink RX5 31 "TheLiningsInIt$Ways" "hurry" "I") (List.mem_of_getElem? (i := 1) rfl)) (fun _ h9 => h9) rfl dX5_leastBy_94 ?_
        refine zc_V (As := [.int d, .int wh]) (rest := [.int 2, .ref w0, .int x_43, .int x_40]) ⟨hx, hb, hml, hown, hts⟩ (c_Pull_deeper l D cI cJ cZ cP cS po (d) (wh) u0 (ki) (a_) (ta) hu_u0 ⟨by omega, by omega, by omega, by omega⟩ hy9 hy10 hy4 hy5) (cwV 2 hts gX5_leastBy_X2_deeper rfl rfl rfl ⟨rfl, dh_X2_deeper⟩ ⟨Nat.le_of_ble_eq_true rfl, Nat.le_of_ble_eq_true rfl⟩) hK hN (hZ.kept hS) hP zP_nil (va_recv (q := (RX2, TX2, 3)) hK (zPu_P (hZ.kept hS) hu_u0) (ci := 2) (q0 := 0) rfl rfl) rfl hl.1 rfl (Nat.le_of_ble_eq_true rfl) dX5_leastBy_97 ⟨Nat.le_of_ble_eq_true rfl, Nat.le_of_ble_eq_true rfl⟩ (fun r_45 hr_45 => ?_)
        obtain ⟨g_46, g_47⟩ := hr_45
        refine lv_iload hx hb dX5_leastBy_100 (lv_at hl 1 rfl) ?_
        skip
        refine zw_V (As := [.int 2, .int r_45, .int x_4]) (rest := [.int x_43, .int x_40]) (wr := []) ⟨hx, hb, hml, hown, hts⟩ (c_W_least_2 l D cI cJ cZ cP cS po w0 wk wl wc wp (wn) (wh) (wg) fp fl fc (r_45) (x_4) hy2 hy3 hy4 hy5 hy6 hy7 hwp (by omega) (by omega) hp_fc H.size) (cwV 3 hts gX5_leastBy_X5_least rfl rfl rfl ⟨rfl, dh_X5_least⟩ ⟨Nat.le_of_ble_eq_true rfl, Nat.le_of_ble_eq_true rfl⟩) hK hN (hZ.kept hS) hP hD hS hA [0, 1, 2, 3] [] rfl rfl (by decide) (by decide) (by decide) (va_recv (q := (RX5, TX5, 7)) hK hP (ci := 5) (q0 := 0) rfl rfl) rfl hl.1 rfl (Nat.le_of_ble_eq_true rfl) dX5_leastBy_102 ⟨Nat.le_of_ble_eq_true rfl, Nat.le_of_ble_eq_true rfl⟩ (fun r_48 u_49 H locs hr_48 hP hD hS => ?_)
        obtain ⟨q_50, rfl⟩ : ∃ z, z = u_49 := ⟨_, rfl⟩
        have h9R := zRe (ws' := [(w0, .inr (5, [.ref wk, .ref wl, .ref wc, .ref wp, .int wn, .int wh, .int wg])), (wl, .inl (cI, 125, .inl q_50)), (wc, .inl (cI, 3, .inl fc)), (wp, .inl (cP, 8, .inr (.inr (.inr (.inr fp)))))]) hP hD rfl
        clear hP hD
        obtain ⟨hP, hD⟩ := h9R
        refine lv_imul hx hb dX5_leastBy_105 ?_
        refine lv_topi (fun x_51 ex_51 => ?_)
        refine lv_iadd hx hb dX5_leastBy_106 ?_
        refine lv_topi (fun x_52 ex_52 => ?_)
        refine lv_istore (lv' := [(7, .int x_52), (6, .int x_4), (5, .int r_1), (0, .ref w0), (1, .ref u0), (2, .int 3), (3, .int d), (4, .int sec)]) hx hb dX5_leastBy_107 hl (by decide) rfl (fun ls hl => ?_)
        refine lv_iload hx hb dX5_leastBy_109 (lv_at hl 0 rfl) ?_
        exact W.iret (v := x_52) hx hb hr (fun t ht hW => ⟨⟨x_52, q_50, rfl, trivial, zRet ht hP hD [0, 1, 2, 3] (by decide) rfl⟩, hS.F ht⟩) hS.2.2 dX5_leastBy_111
    · have fc_41 : 0 < r_1.toInt := zf_nle c_41 rfl (by decide)
      refine lv_iload hx hb dX5_leastBy_51 (lv_at hl 0 rfl) ?_
      refine lv_iload hx hb dX5_leastBy_53 (lv_at hl 2 rfl) ?_
      refine lv_aload_n hx hb dX5_leastBy_55 rfl (lv_at hl 3 rfl) ?_
      refine lv_iload_n hx hb dX5_leastBy_56 rfl (lv_at hl 5 rfl) ?_
      refine lv_iconst (v := 1) hx hb dX5_leastBy_57 (by decide) ?_
      refine lv_isub hx hb dX5_leastBy_58 ?_
      refine lv_topi (fun y_53 ey_53 => ?_)
      obtain rfl : y_53 = 2 := ey_53.trans (by decide)
      refine lv_aload_n hx hb dX5_leastBy_59 rfl (lv_at hl 4 rfl) ?_
      refine lv_iload_n hx hb dX5_leastBy_60 rfl (lv_at hl 6 rfl) ?_
      refine zc_V (As := [.int d]) (rest := [.int 2, .ref w0, .int r_1, .int x_40]) ⟨hx, hb, hml, hown, hts⟩ (c_Pull_shallower l D cI cJ cZ cP cS po (d) u0 (ki) (a_) (ta) hu_u0 ⟨by omega, by omega, by omega, by omega⟩ hy9 hy10) (cwV 1 hts gX5_leastBy_X2_shallower rfl rfl rfl ⟨rfl, dh_X2_shallower⟩ ⟨Nat.le_of_ble_eq_true rfl, Nat.le_of_ble_eq_true rfl⟩) hK hN (hZ.kept hS) hP zP_nil (va_recv (q := (RX2, TX2, 3)) hK (zPu_P (hZ.kept hS) hu_u0) (ci := 2) (q0 := 0) rfl rfl) rfl hl.1 rfl (Nat.le_of_ble_eq_true rfl) dX5_leastBy_61 ⟨Nat.le_of_ble_eq_true rfl, Nat.le_of_ble_eq_true rfl⟩ (fun r_54 hr_54 => ?_)
      obtain ⟨g_55, g_56⟩ := hr_54
      refine lv_iload hx hb dX5_leastBy_64 (lv_at hl 1 rfl) ?_
      skip
      refine zw_V (As := [.int 2, .int r_54, .int x_4]) (rest := [.int r_1, .int x_40]) (wr := []) ⟨hx, hb, hml, hown, hts⟩ (c_W_least_2 l D cI cJ cZ cP cS po w0 wk wl wc wp (wn) (wh) (wg) fp fl fc (r_54) (x_4) hy2 hy3 hy4 hy5 hy6 hy7 hwp (by omega) (by omega) hp_fc H.size) (cwV 3 hts gX5_leastBy_X5_least rfl rfl rfl ⟨rfl, dh_X5_least⟩ ⟨Nat.le_of_ble_eq_true rfl, Nat.le_of_ble_eq_true rfl⟩) hK hN (hZ.kept hS) hP hD hS hA [0, 1, 2, 3] [] rfl rfl (by decide) (by decide) (by decide) (va_recv (q := (RX5, TX5, 7)) hK hP (ci := 5) (q0 := 0) rfl rfl) rfl hl.1 rfl (Nat.le_of_ble_eq_true rfl) dX5_leastBy_66 ⟨Nat.le_of_ble_eq_true rfl, Nat.le_of_ble_eq_true rfl⟩ (fun r_57 u_58 H locs hr_57 hP hD hS => ?_)
      obtain ⟨q_59, rfl⟩ : ∃ z, z = u_58 := ⟨_, rfl⟩
      have h9R := zRe (ws' := [(w0, .inr (5, [.ref wk, .ref wl, .ref wc, .ref wp, .int wn, .int wh, .int wg])), (wl, .inl (cI, 125, .inl q_59)), (wc, .inl (cI, 3, .inl fc)), (wp, .inl (cP, 8, .inr (.inr (.inr (.inr fp)))))]) hP hD rfl
      clear hP hD
      obtain ⟨hP, hD⟩ := h9R
      refine lv_imul hx hb dX5_leastBy_69 ?_
      refine lv_topi (fun x_60 ex_60 => ?_)
      refine lv_iadd hx hb dX5_leastBy_70 ?_
      refine lv_topi (fun x_61 ex_61 => ?_)
      refine lv_istore (lv' := [(7, .int x_61), (6, .int x_4), (5, .int r_1), (0, .ref w0), (1, .ref u0), (2, .int 3), (3, .int d), (4, .int sec)]) hx hb dX5_leastBy_71 hl (by decide) rfl (fun ls hl => ?_)
      refine lv_iload hx hb dX5_leastBy_73 (lv_at hl 2 rfl) ?_
      refine lv_bipush (v := 12) hx hb dX5_leastBy_75 (by decide) ?_
      refine lv_icmp_ge (tgt := 109) hx hb dX5_leastBy_77 (by decide) (fun c_62 => ?_) (fun c_62 => ?_)
      · have fc_62 : 12 ≤ r_1.toInt := zf_le c_62 (by decide) rfl
        refine lv_iload hx hb dX5_leastBy_109 (lv_at hl 0 rfl) ?_
        exact W.iret (v := x_61) hx hb hr (fun t ht hW => ⟨⟨x_61, q_59, rfl, trivial, zRet ht hP hD [0, 1, 2, 3] (by decide) rfl⟩, hS.F ht⟩) hS.2.2 dX5_leastBy_111
      · have fc_62 : r_1.toInt < 12 := zf_nle c_62 (by decide) rfl
        refine lv_iload hx hb dX5_leastBy_80 (lv_at hl 0 rfl) ?_
        refine lv_bipush (v := 12) hx hb dX5_leastBy_82 (by decide) ?_
        refine lv_iload hx hb dX5_leastBy_84 (lv_at hl 2 rfl) ?_
        refine lv_isub hx hb dX5_leastBy_86 ?_
        refine lv_topi (fun x_63 ex_63 => ?_)
        have qx_63 : x_63.toInt = 12 - r_1.toInt := by rw [ex_63]; exact zf_sub (by decide) rfl (by omega) (by omega)
        refine lv_aload_n hx hb dX5_leastBy_87 rfl (lv_at hl 3 rfl) ?_
        refine lv_iload_n hx hb dX5_leastBy_88 rfl (lv_at hl 5 rfl) ?_
        refine lv_iconst (v := 1) hx hb dX5_leastBy_89 (by decide) ?_
        refine lv_isub hx hb dX5_leastBy_90 ?_
        refine lv_topi (fun y_64 ey_64 => ?_)
        obtain rfl : y_64 = 2 := ey_64.trans (by decide)
        refine lv_aload_n hx hb dX5_leastBy_91 rfl (lv_at hl 4 rfl) ?_
        refine lv_iload_n hx hb dX5_leastBy_92 rfl (lv_at hl 6 rfl) ?_
        refine lv_aload_n hx hb dX5_leastBy_93 rfl (lv_at hl 3 rfl) ?_
        refine va_get (D := D) (ci := 5) (v := .int wh) (C := RX5) (T := TX5) (N := 7) hx hb hts hi_X5_leastBy_5 hown hK hP 0 rfl rfl 5 (by decide) (hts (.fieldLink RX5 31 "TheLiningsInIt$Ways" "hurry" "I") (List.mem_of_getElem? (i := 1) rfl)) (fun _ h9 => h9) rfl dX5_leastBy_94 ?_
        refine zc_V (As := [.int d, .int wh]) (rest := [.int 2, .ref w0, .int x_63, .int x_61]) ⟨hx, hb, hml, hown, hts⟩ (c_Pull_deeper l D cI cJ cZ cP cS po (d) (wh) u0 (ki) (a_) (ta) hu_u0 ⟨by omega, by omega, by omega, by omega⟩ hy9 hy10 hy4 hy5) (cwV 2 hts gX5_leastBy_X2_deeper rfl rfl rfl ⟨rfl, dh_X2_deeper⟩ ⟨Nat.le_of_ble_eq_true rfl, Nat.le_of_ble_eq_true rfl⟩) hK hN (hZ.kept hS) hP zP_nil (va_recv (q := (RX2, TX2, 3)) hK (zPu_P (hZ.kept hS) hu_u0) (ci := 2) (q0 := 0) rfl rfl) rfl hl.1 rfl (Nat.le_of_ble_eq_true rfl) dX5_leastBy_97 ⟨Nat.le_of_ble_eq_true rfl, Nat.le_of_ble_eq_true rfl⟩ (fun r_65 hr_65 => ?_)
        obtain ⟨g_66, g_67⟩ := hr_65
        refine lv_iload hx hb dX5_leastBy_100 (lv_at hl 1 rfl) ?_
        skip
        refine zw_V (As := [.int 2, .int r_65, .int x_4]) (rest := [.int x_63, .int x_61]) (wr := []) ⟨hx, hb, hml, hown, hts⟩ (c_W_least_2 l D cI cJ cZ cP cS po w0 wk wl wc wp (wn) (wh) (wg) fp q_59 fc (r_65) (x_4) hy2 hy3 hy4 hy5 hy6 hy7 hwp (by omega) (by omega) hp_fc H.size) (cwV 3 hts gX5_leastBy_X5_least rfl rfl rfl ⟨rfl, dh_X5_least⟩ ⟨Nat.le_of_ble_eq_true rfl, Nat.le_of_ble_eq_true rfl⟩) hK hN (hZ.kept hS) hP hD hS hA [0, 1, 2, 3] [] rfl rfl (by decide) (by decide) (by decide) (va_recv (q := (RX5, TX5, 7)) hK hP (ci := 5) (q0 := 0) rfl rfl) rfl hl.1 rfl (Nat.le_of_ble_eq_true rfl) dX5_leastBy_102 ⟨Nat.le_of_ble_eq_true rfl, Nat.le_of_ble_eq_true rfl⟩ (fun r_68 u_69 H locs hr_68 hP hD hS => ?_)
        obtain ⟨q_70, rfl⟩ : ∃ z, z = u_69 := ⟨_, rfl⟩
        have h9R := zRe (ws' := [(w0, .inr (5, [.ref wk, .ref wl, .ref wc, .ref wp, .int wn, .int wh, .int wg])), (wl, .inl (cI, 125, .inl q_70)), (wc, .inl (cI, 3, .inl fc)), (wp, .inl (cP, 8, .inr (.inr (.inr (.inr fp)))))]) hP hD rfl
        clear hP hD
        obtain ⟨hP, hD⟩ := h9R
        refine lv_imul hx hb dX5_leastBy_105 ?_
        refine lv_topi (fun x_71 ex_71 => ?_)
        refine lv_iadd hx hb dX5_leastBy_106 ?_
        refine lv_topi (fun x_72 ex_72 => ?_)
        refine lv_istore (lv' := [(7, .int x_72), (6, .int x_4), (5, .int r_1), (0, .ref w0), (1, .ref u0), (2, .int 3), (3, .int d), (4, .int sec)]) hx hb dX5_leastBy_107 hl (by decide) rfl (fun ls hl => ?_)
        refine lv_iload hx hb dX5_leastBy_109 (lv_at hl 0 rfl) ?_
        exact W.iret (v := x_72) hx hb hr (fun t ht hW => ⟨⟨x_72, q_70, rfl, trivial, zRet ht hP hD [0, 1, 2, 3] (by decide) rfl⟩, hS.F ht⟩) hS.2.2 dX5_leastBy_111
set_option maxHeartbeats 4000000 in
set_option maxRecDepth 100000 in
theorem c_W_least_3 (l : Launch) (D : va_G) (cI cJ cZ cP cS : ClassId) (po : zPool) (w0 wk wl wc wp : Nat) (wn wh wg : Int32) (fp : Nat → Option Nat) (fl fc : Nat → Int32) (d sec : Int32) (hy0 : 0 ≤ wn.toInt) (hy1 : wn.toInt ≤ 8) (hy2 : 0 ≤ wh.toInt) (hy3 : wh.toInt ≤ 9) (hy4 : 0 ≤ wg.toInt) (hy5 : wg.toInt ≤ 60) (hwp : zWP po fp) (hy7 : 0 ≤ d.toInt) (hy8 : d.toInt ≤ 24) (hp_fc : zRg fc (0) 99) (hpz : Nat) : Met l yX5_least wsX5_least ({ frames := 8, cells := 0, slots := 0, locals := 208 }) (va_Pc [.ref w0, .int 3, .int d, .int sec] (zW D (zKT cI cJ cZ cP cS) po [(w0, .inr (5, [.ref wk, .ref wl, .ref wc, .ref wp, .int wn, .int wh, .int wg])), (wl, .inl (cI, 125, .inl fl)), (wc, .inl (cI, 3, .inl fc)), (wp, .inl (cP, 8, .inr (.inr (.inr (.inr fp)))))] hpz)) (va_Qi (fun (r : Int32) (fl2 : (Nat → Int32)) => True) (zB D [(w0, .inr (5, [.ref wk, .ref wl, .ref wc, .ref wp, .int wn, .int wh, .int wg])), (wl, .inl (cI, 125, .inl fl)), (wc, .inl (cI, 3, .inl fc)), (wp, .inl (cP, 8, .inr (.inr (.inr (.inr fp)))))] hpz (fun (fl2 : Nat → Int32) => [(w0, .inr (5, [.ref wk, .ref wl, .ref wc, .ref wp, .int wn, .int wh, .int wg])), (wl, .inl (cI, 125, .inl fl2)), (wc, .inl (cI, 3, .inl fc)), (wp, .inl (cP, 8, .inr (.inr (.inr (.inr fp)))))])) (va_A [(w0, .inr (5, [.ref wk, .ref wl, .ref wc, .ref wp, .int wn, .int wh, .int wg])), (wl, .inl (cI, 125, .inl fl)), (wc, .inl (cI, 3, .inl fc)), (wp, .inl (cP, 8, .inr (.inr (.inr (.inr fp)))))] hpz)) 0 0 (va_A [(w0, .inr (5, [.ref wk, .ref wl, .ref wc, .ref wp, .int wn, .int wh, .int wg])), (wl, .inl (cI, 125, .inl fl)), (wc, .inl (cI, 3, .inl fc)), (wp, .inl (cP, 8, .inr (.inr (.inr (.inr fp)))))] hpz) := by
  refine Met.ofW (cc := cX5_least) (maxL := 9) (ret := (some .int)) (by decide) rfl ?_
  intro p e s m args below meth c s₁ B hml hv
  obtain ⟨rfl, hsz, hP, hK, hD0, hN, hZ⟩ := hv
  have hx := B.exec
  have hb := B.bytes
  have hr := B.returns
  have hts := atoms_spec (ws := wsX5_least) B.pre
  have hown : s.vm.findClass RX5 = some m.cls := findClass_of_methodNamed B.named
  have hlocks := B.notSynchronized
  subst hsz
  have hD := hD0.self (sz := s.heap.size)
  have hA := zA_of hD
  have hl := lv_entry ([.ref w0, .int 3, .int d, .int sec]) (n := 9) (Nat.le_of_ble_eq_true rfl)
  rw [lg_entry_eq]
  generalize (lg_sl ([.ref w0, .int 3, .int d, .int sec]) ++ List.replicate (9 - (lg_sl ([.ref w0, .int 3, .int d, .int sec])).length) Slot.unset).toArray = ls at hl ⊢
  replace hl : lv_has ls 9 [(0, .ref w0), (1, .int 3), (2, .int d), (3, .int sec)] := hl
  refine zw_begin hP hD (fun H locs hP1 hS => ?_)
  clear hP
  have hP := hP1
  clear hP1
  refine lv_iload_n hx hb dX5_least_0 rfl (lv_at hl 1 rfl) ?_
  refine lv_if_lt (tgt := 20) hx hb dX5_least_1 (by decide) (fun c_1 => ?_) (fun c_1 => ?_)
  · exact absurd c_1 (by decide)
  · refine lv_iload_n hx hb dX5_least_4 rfl (lv_at hl 1 rfl) ?_
    refine lv_iconst (v := 4) hx hb dX5_least_5 (by decide) ?_
    refine lv_icmp_gt (tgt := 20) hx hb dX5_least_6 (by decide) (fun c_2 => ?_) (fun c_2 => ?_)
    · exact absurd c_2 (by decide)
    · refine lv_iload_n hx hb dX5_least_9 rfl (lv_at hl 2 rfl) ?_
      refine lv_iconst (v := 1) hx hb dX5_least_10 (by decide) ?_
      refine lv_icmp_lt (tgt := 20) hx hb dX5_least_11 (by decide) (fun c_3 => ?_) (fun c_3 => ?_)
      · have fc_3 : d.toInt < 1 := zf_lt c_3 rfl (by decide)
        refine lv_iconst (v := 0) hx hb dX5_least_20 (by decide) ?_
        exact W.iret (v := 0) hx hb hr (fun t ht hW => ⟨⟨0, fl, rfl, trivial, zRet ht hP hD [0, 1, 2, 3] (by decide) rfl⟩, hS.F ht⟩) hS.2.2 dX5_least_21
      · have fc_3 : 1 ≤ d.toInt := zf_nlt c_3 rfl (by decide)
        refine lv_iload_n hx hb dX5_least_14 rfl (lv_at hl 2 rfl) ?_
        refine lv_bipush (v := 24) hx hb dX5_least_15 (by decide) ?_
        refine lv_icmp_le (tgt := 22) hx hb dX5_least_17 (by decide) (fun c_4 => ?_) (fun c_4 => ?_)
        · have fc_4 : d.toInt ≤ 24 := zf_le c_4 rfl (by decide)
          refine lv_iload_n hx hb dX5_least_22 rfl (lv_at hl 3 rfl) ?_
          refine lv_iload_n hx hb dX5_least_23 rfl (lv_at hl 1 rfl) ?_
          refine lv_aload_n hx hb dX5_least_24 rfl (lv_at hl 0 rfl) ?_
          refine va_get (D := D) (ci := 5) (v := .int wg) (C := RX5) (T := TX5) (N := 7) hx hb hts hi_X5_least_5 hown hK hP 0 rfl rfl 6 (by decide) (hts (.fieldLink RX5 34 "TheLiningsInIt$Ways" "longest" "I") (List.mem_of_getElem? (i := 1) rfl)) (fun _ h9 => h9) rfl dX5_least_25 ?_
          refine lv_imul hx hb dX5_least_28 ?_
          refine lv_topi (fun x_5 ex_5 => ?_)
          have qx_5 : x_5.toInt = 3 * wg.toInt := by rw [ex_5]; exact zf_mul (by decide) rfl (by omega) (by omega)
          refine lv_bipush (v := 30) hx hb dX5_least_29 (by decide) ?_
          refine lv_iadd hx hb dX5_least_31 ?_
          refine lv_topi (fun x_6 ex_6 => ?_)
          have qx_6 : x_6.toInt = x_5.toInt + 30 := by rw [ex_6]; exact zf_add rfl (by decide) (by omega) (by omega)
          refine lv_icmp_lt (tgt := 39) hx hb dX5_least_32 (by decide) (fun c_7 => ?_) (fun c_7 => ?_)
          · have fc_7 : sec.toInt < x_6.toInt := zf_lt c_7 rfl rfl
            refine lv_iconst (v := 0) hx hb dX5_least_39 (by decide) ?_
            refine lv_istore (lv' := [(4, .int 0), (0, .ref w0), (1, .int 3), (2, .int d), (3, .int sec)]) hx hb dX5_least_40 hl (by decide) rfl (fun ls hl => ?_)
            refine lv_iload_n hx hb dX5_least_42 rfl (lv_at hl 2 rfl) ?_
            refine lv_bipush (v := 25) hx hb dX5_least_43 (by decide) ?_
            refine lv_imul hx hb dX5_least_45 ?_
            refine lv_topi (fun y_8 ey_8 => ?_)
            obtain rfl : y_8 = 75 := ey_8.trans (by decide)
            refine lv_iload_n hx hb dX5_least_46 rfl (lv_at hl 3 rfl) ?_
            refine lv_iadd hx hb dX5_least_47 ?_
            refine lv_topi (fun x_9 ex_9 => ?_)
            have qx_9 : x_9.toInt = 75 + d.toInt := by rw [ex_9]; exact zf_add (by decide) rfl (by omega) (by omega)
            refine lv_istore (lv' := [(5, .int x_9), (4, .int 0), (0, .ref w0), (1, .int 3), (2, .int d), (3, .int sec)]) hx hb dX5_least_48 hl (by decide) rfl (fun ls hl => ?_)
            refine lv_iload hx hb dX5_least_50 (lv_at hl 1 rfl) ?_
            refine lv_if_eq (tgt := 74) hx hb dX5_least_52 (by decide) (fun c_10 => ?_) (fun c_10 => ?_)
            · refine lv_aload_n hx hb dX5_least_74 rfl (lv_at hl 2 rfl) ?_
              refine lv_iload_n hx hb dX5_least_75 rfl (lv_at hl 3 rfl) ?_
              refine lv_iload_n hx hb dX5_least_76 rfl (lv_at hl 5 rfl) ?_
              refine zc_V (As := [.int 3, .int sec]) (rest := []) ⟨hx, hb, hml, hown, hts⟩ (c_W_leastAtOnce_3 l D cI cJ cZ cP cS po w0 wk wl wc wp (wn) (wh) (wg) fc (sec) hy0 hy1 hy2 hy3 hy4 hy5 hp_fc) (cwV 2 hts gX5_least_X5_leastAtOnce rfl rfl rfl ⟨rfl, dh_X5_leastAtOnce⟩ ⟨Nat.le_of_ble_eq_true rfl, Nat.le_of_ble_eq_true rfl⟩) hK hN (hZ.kept hS) hP (hP.sub [0, 2] rfl) (va_recv (q := (RX5, TX5, 7)) hK hP (ci := 5) (q0 := 0) rfl rfl) rfl hl.1 rfl (Nat.le_of_ble_eq_true rfl) dX5_least_77 ⟨Nat.le_of_ble_eq_true rfl, Nat.le_of_ble_eq_true rfl⟩ (fun r_11 hr_11 => ?_)
              refine lv_istore (lv' := [(6, .int r_11), (5, .int x_9), (4, .int 0), (0, .ref w0), (1, .int 3), (2, .int d), (3, .int sec)]) hx hb dX5_least_80 hl (by decide) rfl (fun ls hl => ?_)
              refine lv_iconst (v := 0) hx hb dX5_least_82 (by decide) ?_
              refine lv_istore (lv' := [(7, .int 0), (6, .int r_11), (5, .int x_9), (4, .int 0), (0, .ref w0), (1, .int 3), (2, .int d), (3, .int sec)]) hx hb dX5_least_83 hl (by decide) rfl (fun ls hl => ?_)
              obtain ⟨i_85, hi_85⟩ : ∃ i : Int32, i = 0 := ⟨_, rfl⟩
              replace hl : lv_has ls 9 [(7, .int i_85), (6, .int r_11), (5, .int x_9), (4, .int 0), (0, .ref w0), (1, .int 3), (2, .int d), (3, .int sec)] := by rw [hi_85]; exact lv_sub hl [0, 1, 2, 3, 4, 5, 6, 7] rfl
              have h1i_85 : i_85.toInt = 0 := by rw [hi_85]; decide
              obtain ⟨nfu, hni_85⟩ : ∃ nq9 : Nat, wn.toInt ≤ i_85.toInt + (nq9 : Int) := ⟨((wn.toInt : Int) - 0).toNat, by omega⟩
              have hloi_85 : 0 ≤ i_85.toInt := by omega
              obtain ⟨g_12, hg_12⟩ : ∃ g : Nat → Int32, g = fl := ⟨_, rfl⟩
              replace hP : va_P D vwCl [(w0, .inr (5, [.ref wk, .ref wl, .ref wc, .ref wp, .int wn, .int wh, .int wg])), (wl, .inl (cI, 125, .inl g_12)), (wc, .inl (cI, 3, .inl fc)), (wp, .inl (cP, 8, .inr (.inr (.inr (.inr fp)))))] H := by rw [hg_12]; exact hP
              replace hD : va_D (va_A [(w0, .inr (5, [.ref wk, .ref wl, .ref wc, .ref wp, .int wn, .int wh, .int wg])), (wl, .inl (cI, 125, .inl fl)), (wc, .inl (cI, 3, .inl fc)), (wp, .inl (cP, 8, .inr (.inr (.inr (.inr fp)))))] s.heap.size) [(w0, .inr (5, [.ref wk, .ref wl, .ref wc, .ref wp, .int wn, .int wh, .int wg])), (wl, .inl (cI, 125, .inl g_12)), (wc, .inl (cI, 3, .inl fc)), (wp, .inl (cP, 8, .inr (.inr (.inr (.inr fp)))))] := by rw [hg_12]; exact hD
              obtain ⟨v_13, hv_13⟩ : ∃ g : Int32, g = r_11 := ⟨_, rfl⟩
              replace hl : lv_has ls 9 [(7, .int i_85), (6, .int v_13), (5, .int x_9), (4, .int 0), (0, .ref w0), (1, .int 3), (2, .int d), (3, .int sec)] := by rw [hv_13]; exact hl
              clear h1i_85 hi_85 hg_12 hv_13
              skip
              revert hni_85
              revert hloi_85
              revert hl
              revert hS
              revert hD
              revert hP
              revert ls
              revert locs
              revert H
              revert g_12
              revert v_13
              revert i_85
              induction nfu with
              | zero =>
                intro i_85 v_13 g_12 H locs ls hP hD hS hl hloi_85 hni_85
                have hzi_85 : wn.toInt ≤ i_85.toInt := by omega
                refine lv_iload hx hb dX5_least_85 (lv_at hl 0 rfl) ?_
                refine lv_aload_n hx hb dX5_least_87 rfl (lv_at hl 4 rfl) ?_
                refine va_get (D := D) (ci := 5) (v := .int wn) (C := RX5) (T := TX5) (N := 7) hx hb hts hi_X5_least_5 hown hK hP 0 rfl rfl 4 (by decide) (hts (.fieldLink RX5 27 "TheLiningsInIt$Ways" "count" "I") (List.mem_of_getElem? (i := 3) rfl)) (fun _ h9 => h9) rfl dX5_least_88 ?_
                refine lv_icmp_ge (tgt := 135) hx hb dX5_least_91 (by decide) (fun c_14 => ?_) (fun c_14 => ?_)
                · have fc_14 : wn.toInt ≤ i_85.toInt := zf_le c_14 rfl rfl
                  refine lv_iload hx hb dX5_least_135 (lv_at hl 3 rfl) ?_
                  refine lv_if_eq (tgt := 149) hx hb dX5_least_137 (by decide) (fun c_15 => ?_) (fun c_15 => ?_)
                  · refine lv_iload hx hb dX5_least_149 (lv_at hl 1 rfl) ?_
                    exact W.iret (v := v_13) hx hb hr (fun t ht hW => ⟨⟨v_13, g_12, rfl, trivial, zRet ht hP hD [0, 1, 2, 3] (by decide) rfl⟩, hS.F ht⟩) hS.2.2 dX5_least_151
                  · exact absurd c_15 (by decide)
                · exfalso; have fc_14 : i_85.toInt < wn.toInt := zf_nle c_14 rfl rfl; omega
              | succ nfu ih =>
                intro i_85 v_13 g_12 H locs ls hP hD hS hl hloi_85 hni_85
                refine lv_iload hx hb dX5_least_85 (lv_at hl 0 rfl) ?_
                refine lv_aload_n hx hb dX5_least_87 rfl (lv_at hl 4 rfl) ?_
                refine va_get (D := D) (ci := 5) (v := .int wn) (C := RX5) (T := TX5) (N := 7) hx hb hts hi_X5_least_5 hown hK hP 0 rfl rfl 4 (by decide) (hts (.fieldLink RX5 27 "TheLiningsInIt$Ways" "count" "I") (List.mem_of_getElem? (i := 3) rfl)) (fun _ h9 => h9) rfl dX5_least_88 ?_
                refine lv_icmp_ge (tgt := 135) hx hb dX5_least_91 (by decide) (fun c_16 => ?_) (fun c_16 => ?_)
                · have fc_16 : wn.toInt ≤ i_85.toInt := zf_le c_16 rfl rfl
                  refine lv_iload hx hb dX5_least_135 (lv_at hl 3 rfl) ?_
                  refine lv_if_eq (tgt := 149) hx hb dX5_least_137 (by decide) (fun c_17 => ?_) (fun c_17 => ?_)
                  · refine lv_iload hx hb dX5_least_149 (lv_at hl 1 rfl) ?_
                    exact W.iret (v := v_13) hx hb hr (fun t ht hW => ⟨⟨v_13, g_12, rfl, trivial, zRet ht hP hD [0, 1, 2, 3] (by decide) rfl⟩, hS.F ht⟩) hS.2.2 dX5_least_151
                  · exact absurd c_17 (by decide)
                · have fc_16 : i_85.toInt < wn.toInt := zf_nle c_16 rfl rfl
                  refine lv_iload_n hx hb dX5_least_94 rfl (lv_at hl 5 rfl) ?_
                  refine lv_if_le (tgt := 135) hx hb dX5_least_95 (by decide) (fun c_18 => ?_) (fun c_18 => ?_)
                  · exact absurd c_18 (by decide)
                  · refine lv_aload_n hx hb dX5_least_98 rfl (lv_at hl 4 rfl) ?_
                    refine lv_iload hx hb dX5_least_99 (lv_at hl 0 rfl) ?_
                    refine lv_iload_n hx hb dX5_least_101 rfl (lv_at hl 6 rfl) ?_
                    refine lv_iload_n hx hb dX5_least_102 rfl (lv_at hl 7 rfl) ?_
                    refine zc_Vq (As := [.int i_85, .int d, .int sec]) (rest := []) ⟨hx, hb, hml, hown, hts⟩ (c_W_mayBeAt l D cI cJ cZ cP cS po w0 wk wl wc wp (wn) (wh) (wg) fp (i_85) (d) (sec) hy0 hy1 hy2 hy3 hy4 hy5 hwp) (cwV 3 hts gX5_least_X5_mayBeAt rfl rfl rfl ⟨rfl, dh_X5_mayBeAt⟩ ⟨Nat.le_of_ble_eq_true rfl, Nat.le_of_ble_eq_true rfl⟩) hK hN (hZ.kept hS) hP (hP.sub [0, 3] rfl) (va_recv (q := (RX5, TX5, 7)) hK hP (ci := 5) (q0 := 0) rfl rfl) rfl hl.1 rfl (Nat.le_of_ble_eq_true rfl) dX5_least_103 ⟨Nat.le_of_ble_eq_true rfl, Nat.le_of_ble_eq_true rfl⟩ (fun r_19 hr_19 => ?_)
                    rcases hr_19 with ⟨rfl, g_20⟩ | ⟨rfl, g_21, g_22⟩ | ⟨rfl, g_23, g_24⟩ | ⟨rfl, g_25, g_26, g_27⟩ | ⟨rfl, g_28, g_29, g_30⟩ | ⟨⟨u_34, kiu_34, au_34, tu_34, rfl, huu_34⟩, g_31, g_32, g_33⟩
                    · exfalso; omega
                    · exfalso; omega
                    · refine lv_astoreN (lv' := [(8, .null), (7, .int i_85), (6, .int v_13), (5, .int x_9), (4, .int 0), (0, .ref w0), (1, .int 3), (2, .int d), (3, .int sec)]) hx hb dX5_least_106 hl (by decide) rfl (fun ls hl => ?_)
                      refine lv_aloadN hx hb dX5_least_108 (lv_at hl 0 rfl) ?_
                      refine lv_ifnullN (tgt := 129) hx hb dX5_least_110 (by decide) ?_
                      obtain ⟨x_35, ex_35⟩ : ∃ y : Int32, y = i_85 + 1 := ⟨_, rfl⟩
                      have qx_35 : x_35.toInt = i_85.toInt + 1 := dw_inc ex_35 fc_16
                      refine lv_iinc (v := x_35) (lv' := [(7, .int x_35), (8, .null), (6, .int v_13), (5, .int x_9), (4, .int 0), (0, .ref w0), (1, .int 3), (2, .int d), (3, .int sec)]) hx hb dX5_least_129 hl (k := 1) rfl ex_35.symm (by decide) rfl (fun ls hl => ?_)
                      refine lv_goto (tgt := 85) hx hb dX5_least_132 (by decide) ?_
                      exact ih x_35 v_13 (g_12) _ _ _ (hP.sub [0, 1, 2, 3] rfl) (hD.sub [0, 1, 2, 3] (by decide) rfl) hS (lv_sub hl [0, 2, 3, 4, 5, 6, 7, 8] rfl) (dw_lo hloi_85 qx_35) (dw_hn hni_85 qx_35)
                    · exfalso; omega
                    · refine lv_astoreN (lv' := [(8, .null), (7, .int i_85), (6, .int v_13), (5, .int x_9), (4, .int 0), (0, .ref w0), (1, .int 3), (2, .int d), (3, .int sec)]) hx hb dX5_least_106 hl (by decide) rfl (fun ls hl => ?_)
                      refine lv_aloadN hx hb dX5_least_108 (lv_at hl 0 rfl) ?_
                      refine lv_ifnullN (tgt := 129) hx hb dX5_least_110 (by decide) ?_
                      obtain ⟨x_36, ex_36⟩ : ∃ y : Int32, y = i_85 + 1 := ⟨_, rfl⟩
                      have qx_36 : x_36.toInt = i_85.toInt + 1 := dw_inc ex_36 fc_16
                      refine lv_iinc (v := x_36) (lv' := [(7, .int x_36), (8, .null), (6, .int v_13), (5, .int x_9), (4, .int 0), (0, .ref w0), (1, .int 3), (2, .int d), (3, .int sec)]) hx hb dX5_least_129 hl (k := 1) rfl ex_36.symm (by decide) rfl (fun ls hl => ?_)
                      refine lv_goto (tgt := 85) hx hb dX5_least_132 (by decide) ?_
                      exact ih x_36 v_13 (g_12) _ _ _ (hP.sub [0, 1, 2, 3] rfl) (hD.sub [0, 1, 2, 3] (by decide) rfl) hS (lv_sub hl [0, 2, 3, 4, 5, 6, 7, 8] rfl) (dw_lo hloi_85 qx_36) (dw_hn hni_85 qx_36)
                    · refine W.eq (g2 := F0 m 106 ls (.ref u_34 :: [])) rfl ?_
                      obtain ⟨hku_34, hau_34, htu_34⟩ := zPu_pr (hZ.kept hS) huu_34
                      refine lv_astore (lv' := [(8, .ref u_34), (7, .int i_85), (6, .int v_13), (5, .int x_9), (4, .int 0), (0, .ref w0), (1, .int 3), (2, .int d), (3, .int sec)]) hx hb dX5_least_106 hl (by decide) rfl (fun ls hl => ?_)
                      refine lv_aload hx hb dX5_least_108 (lv_at hl 0 rfl) ?_
                      refine lv_ifnull hx hb dX5_least_110 ?_
                      refine lv_iload hx hb dX5_least_113 (lv_at hl 2 rfl) ?_
                      refine lv_aload_n hx hb dX5_least_115 rfl (lv_at hl 5 rfl) ?_
                      refine lv_aload hx hb dX5_least_116 (lv_at hl 0 rfl) ?_
                      refine lv_iload_n hx hb dX5_least_118 rfl (lv_at hl 6 rfl) ?_
                      refine lv_iload_n hx hb dX5_least_119 rfl (lv_at hl 7 rfl) ?_
                      refine lv_iload_n hx hb dX5_least_120 rfl (lv_at hl 8 rfl) ?_
                      skip
                      refine zw_V (As := [.ref u_34, .int 3, .int d, .int sec]) (rest := [.int v_13]) (wr := []) ⟨hx, hb, hml, hown, hts⟩ (c_W_leastBy_3 l D cI cJ cZ cP cS po w0 wk wl wc wp (wn) (wh) (wg) fp g_12 fc (d) (sec) u_34 (kiu_34) (au_34) (tu_34) huu_34 ⟨by omega, by omega, by omega, by omega⟩ hy0 hy1 hy2 hy3 hy4 hy5 hwp hy7 hy8 hp_fc H.size) (cwV 4 hts gX5_least_X5_leastBy rfl rfl rfl ⟨rfl, dh_X5_leastBy⟩ ⟨Nat.le_of_ble_eq_true rfl, Nat.le_of_ble_eq_true rfl⟩) hK hN (hZ.kept hS) hP hD hS hA [0, 1, 2, 3] [] rfl rfl (by decide) (by decide) (by decide) (va_recv (q := (RX5, TX5, 7)) hK hP (ci := 5) (q0 := 0) rfl rfl) rfl hl.1 rfl (Nat.le_of_ble_eq_true rfl) dX5_least_121 ⟨Nat.le_of_ble_eq_true rfl, Nat.le_of_ble_eq_true rfl⟩ (fun r_37 u_38 H locs hr_37 hP hD hS => ?_)
                      obtain ⟨q_39, rfl⟩ : ∃ z, z = u_38 := ⟨_, rfl⟩
                      have h9R := zRe (ws' := [(w0, .inr (5, [.ref wk, .ref wl, .ref wc, .ref wp, .int wn, .int wh, .int wg])), (wl, .inl (cI, 125, .inl q_39)), (wc, .inl (cI, 3, .inl fc)), (wp, .inl (cP, 8, .inr (.inr (.inr (.inr fp)))))]) hP hD rfl
                      clear hP hD
                      obtain ⟨hP, hD⟩ := h9R
                      refine va_mmin hx hb (hml.trans hl.1.symm) hown (hts (.methodLink RX5 110 Lib.Math.min.name) (List.mem_of_getElem? (i := 4) rfl)) (hts _ (List.mem_of_getElem? (i := 5) rfl)) (hts _ (List.mem_of_getElem? (i := 6) rfl)) (hts _ (List.mem_of_getElem? (i := 7) rfl)) (Nat.le_of_ble_eq_true rfl) (Nat.le_of_ble_eq_true rfl) (Nat.le_of_ble_eq_true rfl) (Nat.le_of_ble_eq_true rfl) dX5_least_124 ?_
                      refine lv_topi (fun x_40 ex_40 => ?_)
                      have qx_40 := zf_min ex_40 (x1 := v_13.toInt) (y1 := r_37.toInt) rfl rfl
                      refine lv_istore (lv' := [(6, .int x_40), (8, .ref u_34), (7, .int i_85), (5, .int x_9), (4, .int 0), (0, .ref w0), (1, .int 3), (2, .int d), (3, .int sec)]) hx hb dX5_least_127 hl (by decide) rfl (fun ls hl => ?_)
                      obtain ⟨x_41, ex_41⟩ : ∃ y : Int32, y = i_85 + 1 := ⟨_, rfl⟩
                      have qx_41 : x_41.toInt = i_85.toInt + 1 := dw_inc ex_41 fc_16
                      refine lv_iinc (v := x_41) (lv' := [(7, .int x_41), (6, .int x_40), (8, .ref u_34), (5, .int x_9), (4, .int 0), (0, .ref w0), (1, .int 3), (2, .int d), (3, .int sec)]) hx hb dX5_least_129 hl (k := 2) rfl ex_41.symm (by decide) rfl (fun ls hl => ?_)
                      refine lv_goto (tgt := 85) hx hb dX5_least_132 (by decide) ?_
                      exact ih x_41 x_40 (q_39) _ _ _ (hP.sub [0, 1, 2, 3] rfl) (hD.sub [0, 1, 2, 3] (by decide) rfl) hS (lv_sub hl [0, 1, 3, 4, 5, 6, 7, 8] rfl) (dw_lo hloi_85 qx_41) (dw_hn hni_85 qx_41)
            · exact absurd c_10 (by decide)
          · have fc_7 : x_6.toInt ≤ sec.toInt := zf_nlt c_7 rfl rfl
            refine lv_iconst (v := 1) hx hb dX5_least_35 (by decide) ?_
            refine lv_goto (tgt := 40) hx hb dX5_least_36 (by decide) ?_
            refine lv_istore (lv' := [(4, .int 1), (0, .ref w0), (1, .int 3), (2, .int d), (3, .int sec)]) hx hb dX5_least_40 hl (by decide) rfl (fun ls hl => ?_)
            refine lv_iload_n hx hb dX5_least_42 rfl (lv_at hl 2 rfl) ?_
            refine lv_bipush (v := 25) hx hb dX5_least_43 (by decide) ?_
            refine lv_imul hx hb dX5_least_45 ?_
            refine lv_topi (fun y_42 ey_42 => ?_)
            obtain rfl : y_42 = 75 := ey_42.trans (by decide)
            refine lv_iload_n hx hb dX5_least_46 rfl (lv_at hl 3 rfl) ?_
            refine lv_iadd hx hb dX5_least_47 ?_
            refine lv_topi (fun x_43 ex_43 => ?_)
            have qx_43 : x_43.toInt = 75 + d.toInt := by rw [ex_43]; exact zf_add (by decide) rfl (by omega) (by omega)
            refine lv_istore (lv' := [(5, .int x_43), (4, .int 1), (0, .ref w0), (1, .int 3), (2, .int d), (3, .int sec)]) hx hb dX5_least_48 hl (by decide) rfl (fun ls hl => ?_)
            refine lv_iload hx hb dX5_least_50 (lv_at hl 1 rfl) ?_
            refine lv_if_eq (tgt := 74) hx hb dX5_least_52 (by decide) (fun c_44 => ?_) (fun c_44 => ?_)
            · exact absurd c_44 (by decide)
            · refine lv_aload_n hx hb dX5_least_55 rfl (lv_at hl 2 rfl) ?_
              refine va_get (D := D) (ci := 5) (v := .ref wl) (C := RX5) (T := TX5) (N := 7) hx hb hts hi_X5_least_5 hown hK hP 0 rfl rfl 1 (by decide) (hts (.fieldLink RX5 15 "TheLiningsInIt$Ways" "knownLeast" "[I") (List.mem_of_getElem? (i := 2) rfl)) (fun _ h9 => h9) rfl dX5_least_56 ?_
              refine lv_iload hx hb dX5_least_59 (lv_at hl 0 rfl) ?_
              refine va_iald hx hb hK hP 1 0 rfl rfl (zf_in (by omega) (by omega)) dX5_least_61 ?_
              refine lv_topi (fun x_45 ex_45 => ?_)
              refine lv_iconst (v := (-1)) hx hb dX5_least_62 (by decide) ?_
              refine lv_icmp_eq (tgt := 74) hx hb dX5_least_63 (by decide) (fun c_46 => ?_) (fun c_46 => ?_)
              · have fc_46 : x_45.toInt = (-1) := zf_eq c_46 rfl (by decide)
                refine lv_aload_n hx hb dX5_least_74 rfl (lv_at hl 2 rfl) ?_
                refine lv_iload_n hx hb dX5_least_75 rfl (lv_at hl 3 rfl) ?_
                refine lv_iload_n hx hb dX5_least_76 rfl (lv_at hl 5 rfl) ?_
                refine zc_V (As := [.int 3, .int sec]) (rest := []) ⟨hx, hb, hml, hown, hts⟩ (c_W_leastAtOnce_3 l D cI cJ cZ cP cS po w0 wk wl wc wp (wn) (wh) (wg) fc (sec) hy0 hy1 hy2 hy3 hy4 hy5 hp_fc) (cwV 2 hts gX5_least_X5_leastAtOnce rfl rfl rfl ⟨rfl, dh_X5_leastAtOnce⟩ ⟨Nat.le_of_ble_eq_true rfl, Nat.le_of_ble_eq_true rfl⟩) hK hN (hZ.kept hS) hP (hP.sub [0, 2] rfl) (va_recv (q := (RX5, TX5, 7)) hK hP (ci := 5) (q0 := 0) rfl rfl) rfl hl.1 rfl (Nat.le_of_ble_eq_true rfl) dX5_least_77 ⟨Nat.le_of_ble_eq_true rfl, Nat.le_of_ble_eq_true rfl⟩ (fun r_47 hr_47 => ?_)
                refine lv_istore (lv' := [(6, .int r_47), (5, .int x_43), (4, .int 1), (0, .ref w0), (1, .int 3), (2, .int d), (3, .int sec)]) hx hb dX5_least_80 hl (by decide) rfl (fun ls hl => ?_)
                refine lv_iconst (v := 0) hx hb dX5_least_82 (by decide) ?_
                refine lv_istore (lv' := [(7, .int 0), (6, .int r_47), (5, .int x_43), (4, .int 1), (0, .ref w0), (1, .int 3), (2, .int d), (3, .int sec)]) hx hb dX5_least_83 hl (by decide) rfl (fun ls hl => ?_)
                obtain ⟨i_85, hi_85⟩ : ∃ i : Int32, i = 0 := ⟨_, rfl⟩
                replace hl : lv_has ls 9 [(7, .int i_85), (6, .int r_47), (5, .int x_43), (4, .int 1), (0, .ref w0), (1, .int 3), (2, .int d), (3, .int sec)] := by rw [hi_85]; exact lv_sub hl [0, 1, 2, 3, 4, 5, 6, 7] rfl
                have h1i_85 : i_85.toInt = 0 := by rw [hi_85]; decide
                obtain ⟨nfu, hni_85⟩ : ∃ nq9 : Nat, wn.toInt ≤ i_85.toInt + (nq9 : Int) := ⟨((wn.toInt : Int) - 0).toNat, by omega⟩
                have hloi_85 : 0 ≤ i_85.toInt := by omega
                obtain ⟨g_48, hg_48⟩ : ∃ g : Nat → Int32, g = fl := ⟨_, rfl⟩
                replace hP : va_P D vwCl [(w0, .inr (5, [.ref wk, .ref wl, .ref wc, .ref wp, .int wn, .int wh, .int wg])), (wl, .inl (cI, 125, .inl g_48)), (wc, .inl (cI, 3, .inl fc)), (wp, .inl (cP, 8, .inr (.inr (.inr (.inr fp)))))] H := by rw [hg_48]; exact hP
                replace hD : va_D (va_A [(w0, .inr (5, [.ref wk, .ref wl, .ref wc, .ref wp, .int wn, .int wh, .int wg])), (wl, .inl (cI, 125, .inl fl)), (wc, .inl (cI, 3, .inl fc)), (wp, .inl (cP, 8, .inr (.inr (.inr (.inr fp)))))] s.heap.size) [(w0, .inr (5, [.ref wk, .ref wl, .ref wc, .ref wp, .int wn, .int wh, .int wg])), (wl, .inl (cI, 125, .inl g_48)), (wc, .inl (cI, 3, .inl fc)), (wp, .inl (cP, 8, .inr (.inr (.inr (.inr fp)))))] := by rw [hg_48]; exact hD
                obtain ⟨v_49, hv_49⟩ : ∃ g : Int32, g = r_47 := ⟨_, rfl⟩
                replace hl : lv_has ls 9 [(7, .int i_85), (6, .int v_49), (5, .int x_43), (4, .int 1), (0, .ref w0), (1, .int 3), (2, .int d), (3, .int sec)] := by rw [hv_49]; exact hl
                clear h1i_85 hi_85 hg_48 hv_49
                skip
                revert hni_85
                revert hloi_85
                revert hl
                revert hS
                revert hD
                revert hP
                revert ls
                revert locs
                revert H
                revert g_48
                revert v_49
                revert i_85
                induction nfu with
                | zero =>
                  intro i_85 v_49 g_48 H locs ls hP hD hS hl hloi_85 hni_85
                  have hzi_85 : wn.toInt ≤ i_85.toInt := by omega
                  refine lv_iload hx hb dX5_least_85 (lv_at hl 0 rfl) ?_
                  refine lv_aload_n hx hb dX5_least_87 rfl (lv_at hl 4 rfl) ?_
                  refine va_get (D := D) (ci := 5) (v := .int wn) (C := RX5) (T := TX5) (N := 7) hx hb hts hi_X5_least_5 hown hK hP 0 rfl rfl 4 (by decide) (hts (.fieldLink RX5 27 "TheLiningsInIt$Ways" "count" "I") (List.mem_of_getElem? (i := 3) rfl)) (fun _ h9 => h9) rfl dX5_least_88 ?_
                  refine lv_icmp_ge (tgt := 135) hx hb dX5_least_91 (by decide) (fun c_50 => ?_) (fun c_50 => ?_)
                  · have fc_50 : wn.toInt ≤ i_85.toInt := zf_le c_50 rfl rfl
                    refine lv_iload hx hb dX5_least_135 (lv_at hl 3 rfl) ?_
                    refine lv_if_eq (tgt := 149) hx hb dX5_least_137 (by decide) (fun c_51 => ?_) (fun c_51 => ?_)
                    · exact absurd c_51 (by decide)
                    · refine lv_aload_n hx hb dX5_least_140 rfl (lv_at hl 4 rfl) ?_
                      refine va_get (D := D) (ci := 5) (v := .ref wl) (C := RX5) (T := TX5) (N := 7) hx hb hts hi_X5_least_5 hown hK hP 0 rfl rfl 1 (by decide) (hts (.fieldLink RX5 15 "TheLiningsInIt$Ways" "knownLeast" "[I") (List.mem_of_getElem? (i := 2) rfl)) (fun _ h9 => h9) rfl dX5_least_141 ?_
                      refine lv_iload hx hb dX5_least_144 (lv_at hl 2 rfl) ?_
                      refine lv_iload hx hb dX5_least_146 (lv_at hl 1 rfl) ?_
                      refine va_iast hx hb hK hP hD hS 1 0 rfl rfl (zf_in (by omega) (by omega)) dX5_least_148 (fun H locs hP hD hS => ?_)
                      obtain ⟨g_52, hg_52⟩ : ∃ g : Nat → Int32, g = upd g_48 x_43.toNatClampNeg v_49 := ⟨_, rfl⟩
                      rw [← hg_52] at hP hD
                      clear hg_52
                      have h9R := zRe (ws' := [(w0, .inr (5, [.ref wk, .ref wl, .ref wc, .ref wp, .int wn, .int wh, .int wg])), (wl, .inl (cI, 125, .inl g_52)), (wc, .inl (cI, 3, .inl fc)), (wp, .inl (cP, 8, .inr (.inr (.inr (.inr fp)))))]) hP hD rfl
                      clear hP hD
                      obtain ⟨hP, hD⟩ := h9R
                      refine lv_iload hx hb dX5_least_149 (lv_at hl 1 rfl) ?_
                      exact W.iret (v := v_49) hx hb hr (fun t ht hW => ⟨⟨v_49, g_52, rfl, trivial, zRet ht hP hD [0, 1, 2, 3] (by decide) rfl⟩, hS.F ht⟩) hS.2.2 dX5_least_151
                  · exfalso; have fc_50 : i_85.toInt < wn.toInt := zf_nle c_50 rfl rfl; omega
                | succ nfu ih =>
                  intro i_85 v_49 g_48 H locs ls hP hD hS hl hloi_85 hni_85
                  refine lv_iload hx hb dX5_least_85 (lv_at hl 0 rfl) ?_
                  refine lv_aload_n hx hb dX5_least_87 rfl (lv_at hl 4 rfl) ?_
                  refine va_get (D := D) (ci := 5) (v := .int wn) (C := RX5) (T := TX5) (N := 7) hx hb hts hi_X5_least_5 hown hK hP 0 rfl rfl 4 (by decide) (hts (.fieldLink RX5 27 "TheLiningsInIt$Ways" "count" "I") (List.mem_of_getElem? (i := 3) rfl)) (fun _ h9 => h9) rfl dX5_least_88 ?_
                  refine lv_icmp_ge (tgt := 135) hx hb dX5_least_91 (by decide) (fun c_53 => ?_) (fun c_53 => ?_)
                  · have fc_53 : wn.toInt ≤ i_85.toInt := zf_le c_53 rfl rfl
                    refine lv_iload hx hb dX5_least_135 (lv_at hl 3 rfl) ?_
                    refine lv_if_eq (tgt := 149) hx hb dX5_least_137 (by decide) (fun c_54 => ?_) (fun c_54 => ?_)
                    · exact absurd c_54 (by decide)
                    · refine lv_aload_n hx hb dX5_least_140 rfl (lv_at hl 4 rfl) ?_
                      refine va_get (D := D) (ci := 5) (v := .ref wl) (C := RX5) (T := TX5) (N := 7) hx hb hts hi_X5_least_5 hown hK hP 0 rfl rfl 1 (by decide) (hts (.fieldLink RX5 15 "TheLiningsInIt$Ways" "knownLeast" "[I") (List.mem_of_getElem? (i := 2) rfl)) (fun _ h9 => h9) rfl dX5_least_141 ?_
                      refine lv_iload hx hb dX5_least_144 (lv_at hl 2 rfl) ?_
                      refine lv_iload hx hb dX5_least_146 (lv_at hl 1 rfl) ?_
                      refine va_iast hx hb hK hP hD hS 1 0 rfl rfl (zf_in (by omega) (by omega)) dX5_least_148 (fun H locs hP hD hS => ?_)
                      obtain ⟨g_55, hg_55⟩ : ∃ g : Nat → Int32, g = upd g_48 x_43.toNatClampNeg v_49 := ⟨_, rfl⟩
                      rw [← hg_55] at hP hD
                      clear hg_55
                      have h9R := zRe (ws' := [(w0, .inr (5, [.ref wk, .ref wl, .ref wc, .ref wp, .int wn, .int wh, .int wg])), (wl, .inl (cI, 125, .inl g_55)), (wc, .inl (cI, 3, .inl fc)), (wp, .inl (cP, 8, .inr (.inr (.inr (.inr fp)))))]) hP hD rfl
                      clear hP hD
                      obtain ⟨hP, hD⟩ := h9R
                      refine lv_iload hx hb dX5_least_149 (lv_at hl 1 rfl) ?_
                      exact W.iret (v := v_49) hx hb hr (fun t ht hW => ⟨⟨v_49, g_55, rfl, trivial, zRet ht hP hD [0, 1, 2, 3] (by decide) rfl⟩, hS.F ht⟩) hS.2.2 dX5_least_151
                  · have fc_53 : i_85.toInt < wn.toInt := zf_nle c_53 rfl rfl
                    refine lv_iload_n hx hb dX5_least_94 rfl (lv_at hl 5 rfl) ?_
                    refine lv_if_le (tgt := 135) hx hb dX5_least_95 (by decide) (fun c_56 => ?_) (fun c_56 => ?_)
                    · exact absurd c_56 (by decide)
                    · refine lv_aload_n hx hb dX5_least_98 rfl (lv_at hl 4 rfl) ?_
                      refine lv_iload hx hb dX5_least_99 (lv_at hl 0 rfl) ?_
                      refine lv_iload_n hx hb dX5_least_101 rfl (lv_at hl 6 rfl) ?_
                      refine lv_iload_n hx hb dX5_least_102 rfl (lv_at hl 7 rfl) ?_
                      refine zc_Vq (As := [.int i_85, .int d, .int sec]) (rest := []) ⟨hx, hb, hml, hown, hts⟩ (c_W_mayBeAt l D cI cJ cZ cP cS po w0 wk wl wc wp (wn) (wh) (wg) fp (i_85) (d) (sec) hy0 hy1 hy2 hy3 hy4 hy5 hwp) (cwV 3 hts gX5_least_X5_mayBeAt rfl rfl rfl ⟨rfl, dh_X5_mayBeAt⟩ ⟨Nat.le_of_ble_eq_true rfl, Nat.le_of_ble_eq_true rfl⟩) hK hN (hZ.kept hS) hP (hP.sub [0, 3] rfl) (va_recv (q := (RX5, TX5, 7)) hK hP (ci := 5) (q0 := 0) rfl rfl) rfl hl.1 rfl (Nat.le_of_ble_eq_true rfl) dX5_least_103 ⟨Nat.le_of_ble_eq_true rfl, Nat.le_of_ble_eq_true rfl⟩ (fun r_57 hr_57 => ?_)
                      rcases hr_57 with ⟨rfl, g_58⟩ | ⟨rfl, g_59, g_60⟩ | ⟨rfl, g_61, g_62⟩ | ⟨rfl, g_63, g_64, g_65⟩ | ⟨rfl, g_66, g_67, g_68⟩ | ⟨⟨u_72, kiu_72, au_72, tu_72, rfl, huu_72⟩, g_69, g_70, g_71⟩
                      · exfalso; omega
                      · exfalso; omega
                      · refine lv_astoreN (lv' := [(8, .null), (7, .int i_85), (6, .int v_49), (5, .int x_43), (4, .int 1), (0, .ref w0), (1, .int 3), (2, .int d), (3, .int sec)]) hx hb dX5_least_106 hl (by decide) rfl (fun ls hl => ?_)
                        refine lv_aloadN hx hb dX5_least_108 (lv_at hl 0 rfl) ?_
                        refine lv_ifnullN (tgt := 129) hx hb dX5_least_110 (by decide) ?_
                        obtain ⟨x_73, ex_73⟩ : ∃ y : Int32, y = i_85 + 1 := ⟨_, rfl⟩
                        have qx_73 : x_73.toInt = i_85.toInt + 1 := dw_inc ex_73 fc_53
                        refine lv_iinc (v := x_73) (lv' := [(7, .int x_73), (8, .null), (6, .int v_49), (5, .int x_43), (4, .int 1), (0, .ref w0), (1, .int 3), (2, .int d), (3, .int sec)]) hx hb dX5_least_129 hl (k := 1) rfl ex_73.symm (by decide) rfl (fun ls hl => ?_)
                        refine lv_goto (tgt := 85) hx hb dX5_least_132 (by decide) ?_
                        exact ih x_73 v_49 (g_48) _ _ _ (hP.sub [0, 1, 2, 3] rfl) (hD.sub [0, 1, 2, 3] (by decide) rfl) hS (lv_sub hl [0, 2, 3, 4, 5, 6, 7, 8] rfl) (dw_lo hloi_85 qx_73) (dw_hn hni_85 qx_73)
                      · exfalso; omega
                      · refine lv_astoreN (lv' := [(8, .null), (7, .int i_85), (6, .int v_49), (5, .int x_43), (4, .int 1), (0, .ref w0), (1, .int 3), (2, .int d), (3, .int sec)]) hx hb dX5_least_106 hl (by decide) rfl (fun ls hl => ?_)
                        refine lv_aloadN hx hb dX5_least_108 (lv_at hl 0 rfl) ?_
                        refine lv_ifnullN (tgt := 129) hx hb dX5_least_110 (by decide) ?_
                        obtain ⟨x_74, ex_74⟩ : ∃ y : Int32, y = i_85 + 1 := ⟨_, rfl⟩
                        have qx_74 : x_74.toInt = i_85.toInt + 1 := dw_inc ex_74 fc_53
                        refine lv_iinc (v := x_74) (lv' := [(7, .int x_74), (8, .null), (6, .int v_49), (5, .int x_43), (4, .int 1), (0, .ref w0), (1, .int 3), (2, .int d), (3, .int sec)]) hx hb dX5_least_129 hl (k := 1) rfl ex_74.symm (by decide) rfl (fun ls hl => ?_)
                        refine lv_goto (tgt := 85) hx hb dX5_least_132 (by decide) ?_
                        exact ih x_74 v_49 (g_48) _ _ _ (hP.sub [0, 1, 2, 3] rfl) (hD.sub [0, 1, 2, 3] (by decide) rfl) hS (lv_sub hl [0, 2, 3, 4, 5, 6, 7, 8] rfl) (dw_lo hloi_85 qx_74) (dw_hn hni_85 qx_74)
                      · refine W.eq (g2 := F0 m 106 ls (.ref u_72 :: [])) rfl ?_
                        obtain ⟨hku_72, hau_72, htu_72⟩ := zPu_pr (hZ.kept hS) huu_72
                        refine lv_astore (lv' := [(8, .ref u_72), (7, .int i_85), (6, .int v_49), (5, .int x_43), (4, .int 1), (0, .ref w0), (1, .int 3), (2, .int d), (3, .int sec)]) hx hb dX5_least_106 hl (by decide) rfl (fun ls hl => ?_)
                        refine lv_aload hx hb dX5_least_108 (lv_at hl 0 rfl) ?_
                        refine lv_ifnull hx hb dX5_least_110 ?_
                        refine lv_iload hx hb dX5_least_113 (lv_at hl 2 rfl) ?_
                        refine lv_aload_n hx hb dX5_least_115 rfl (lv_at hl 5 rfl) ?_
                        refine lv_aload hx hb dX5_least_116 (lv_at hl 0 rfl) ?_
                        refine lv_iload_n hx hb dX5_least_118 rfl (lv_at hl 6 rfl) ?_
                        refine lv_iload_n hx hb dX5_least_119 rfl (lv_at hl 7 rfl) ?_
                        refine lv_iload_n hx hb dX5_least_120 rfl (lv_at hl 8 rfl) ?_
                        skip
                        refine zw_V (As := [.ref u_72, .int 3, .int d, .int sec]) (rest := [.int v_49]) (wr := []) ⟨hx, hb, hml, hown, hts⟩ (c_W_leastBy_3 l D cI cJ cZ cP cS po w0 wk wl wc wp (wn) (wh) (wg) fp g_48 fc (d) (sec) u_72 (kiu_72) (au_72) (tu_72) huu_72 ⟨by omega, by omega, by omega, by omega⟩ hy0 hy1 hy2 hy3 hy4 hy5 hwp hy7 hy8 hp_fc H.size) (cwV 4 hts gX5_least_X5_leastBy rfl rfl rfl ⟨rfl, dh_X5_leastBy⟩ ⟨Nat.le_of_ble_eq_true rfl, Nat.le_of_ble_eq_true rfl⟩) hK hN (hZ.kept hS) hP hD hS hA [0, 1, 2, 3] [] rfl rfl (by decide) (by decide) (by decide) (va_recv (q := (RX5, TX5, 7)) hK hP (ci := 5) (q0 := 0) rfl rfl) rfl hl.1 rfl (Nat.le_of_ble_eq_true rfl) dX5_least_121 ⟨Nat.le_of_ble_eq_true rfl, Nat.le_of_ble_eq_true rfl⟩ (fun r_75 u_76 H locs hr_75 hP hD hS => ?_)
                        obtain ⟨q_77, rfl⟩ : ∃ z, z = u_76 := ⟨_, rfl⟩
                        have h9R := zRe (ws' := [(w0, .inr (5, [.ref wk, .ref wl, .ref wc, .ref wp, .int wn, .int wh, .int wg])), (wl, .inl (cI, 125, .inl q_77)), (wc, .inl (cI, 3, .inl fc)), (wp, .inl (cP, 8, .inr (.inr (.inr (.inr fp)))))]) hP hD rfl
                        clear hP hD
                        obtain ⟨hP, hD⟩ := h9R
                        refine va_mmin hx hb (hml.trans hl.1.symm) hown (hts (.methodLink RX5 110 Lib.Math.min.name) (List.mem_of_getElem? (i := 4) rfl)) (hts _ (List.mem_of_getElem? (i := 5) rfl)) (hts _ (List.mem_of_getElem? (i := 6) rfl)) (hts _ (List.mem_of_getElem? (i := 7) rfl)) (Nat.le_of_ble_eq_true rfl) (Nat.le_of_ble_eq_true rfl) (Nat.le_of_ble_eq_true rfl) (Nat.le_of_ble_eq_true rfl) dX5_least_124 ?_
                        refine lv_topi (fun x_78 ex_78 => ?_)
                        have qx_78 := zf_min ex_78 (x1 := v_49.toInt) (y1 := r_75.toInt) rfl rfl
                        refine lv_istore (lv' := [(6, .int x_78), (8, .ref u_72), (7, .int i_85), (5, .int x_43), (4, .int 1), (0, .ref w0), (1, .int 3), (2, .int d), (3, .int sec)]) hx hb dX5_least_127 hl (by decide) rfl (fun ls hl => ?_)
                        obtain ⟨x_79, ex_79⟩ : ∃ y : Int32, y = i_85 + 1 := ⟨_, rfl⟩
                        have qx_79 : x_79.toInt = i_85.toInt + 1 := dw_inc ex_79 fc_53
                        refine lv_iinc (v := x_79) (lv' := [(7, .int x_79), (6, .int x_78), (8, .ref u_72), (5, .int x_43), (4, .int 1), (0, .ref w0), (1, .int 3), (2, .int d), (3, .int sec)]) hx hb dX5_least_129 hl (k := 2) rfl ex_79.symm (by decide) rfl (fun ls hl => ?_)
                        refine lv_goto (tgt := 85) hx hb dX5_least_132 (by decide) ?_
                        exact ih x_79 x_78 (q_77) _ _ _ (hP.sub [0, 1, 2, 3] rfl) (hD.sub [0, 1, 2, 3] (by decide) rfl) hS (lv_sub hl [0, 1, 3, 4, 5, 6, 7, 8] rfl) (dw_lo hloi_85 qx_79) (dw_hn hni_85 qx_79)
              · have fc_46 : x_45.toInt ≠ (-1) := zf_ne c_46 rfl (by decide)
                refine lv_aload_n hx hb dX5_least_66 rfl (lv_at hl 2 rfl) ?_
                refine va_get (D := D) (ci := 5) (v := .ref wl) (C := RX5) (T := TX5) (N := 7) hx hb hts hi_X5_least_5 hown hK hP 0 rfl rfl 1 (by decide) (hts (.fieldLink RX5 15 "TheLiningsInIt$Ways" "knownLeast" "[I") (List.mem_of_getElem? (i := 2) rfl)) (fun _ h9 => h9) rfl dX5_least_67 ?_
                refine lv_iload hx hb dX5_least_70 (lv_at hl 0 rfl) ?_
                refine va_iald hx hb hK hP 1 0 rfl rfl (zf_in (by omega) (by omega)) dX5_least_72 ?_
                refine lv_topi (fun x_80 ex_80 => ?_)
                exact W.iret (v := x_80) hx hb hr (fun t ht hW => ⟨⟨x_80, fl, rfl, trivial, zRet ht hP hD [0, 1, 2, 3] (by decide) rfl⟩, hS.F ht⟩) hS.2.2 dX5_least_73
        · exfalso; have fc_4 : 24 < d.toInt := zf_nle c_4 rfl (by decide); omega
set_option maxHeartbeats 4000000 in
set_option maxRecDepth 100000 in
theorem c_W_leastBy_4 (l : Launch) (D : va_G) (cI cJ cZ cP cS : ClassId) (po : zPool) (w0 wk wl wc wp : Nat) (wn wh wg : Int32) (fp : Nat → Option Nat) (fl fc : Nat → Int32) (d sec : Int32) (u0 : Nat) (ki a_ ta : Int32) (hu_u0 : zPu po u0 ki a_ ta) (hr_u0 : zPr ki a_ ta) (hy2 : 0 ≤ wn.toInt) (hy3 : wn.toInt ≤ 8) (hy4 : 0 ≤ wh.toInt) (hy5 : wh.toInt ≤ 9) (hy6 : 0 ≤ wg.toInt) (hy7 : wg.toInt ≤ 60) (hwp : zWP po fp) (hy9 : 0 ≤ d.toInt) (hy10 : d.toInt ≤ 24) (hp_fc : zRg fc (0) 99) (hpz : Nat) : Met l yX5_leastBy wsX5_leastBy ({ frames := 9, cells := 0, slots := 0, locals := 236 }) (va_Pc [.ref w0, .ref u0, .int 4, .int d, .int sec] (zW D (zKT cI cJ cZ cP cS) po [(w0, .inr (5, [.ref wk, .ref wl, .ref wc, .ref wp, .int wn, .int wh, .int wg])), (wl, .inl (cI, 125, .inl fl)), (wc, .inl (cI, 3, .inl fc)), (wp, .inl (cP, 8, .inr (.inr (.inr (.inr fp)))))] hpz)) (va_Qi (fun (r : Int32) (fl2 : (Nat → Int32)) => True) (zB D [(w0, .inr (5, [.ref wk, .ref wl, .ref wc, .ref wp, .int wn, .int wh, .int wg])), (wl, .inl (cI, 125, .inl fl)), (wc, .inl (cI, 3, .inl fc)), (wp, .inl (cP, 8, .inr (.inr (.inr (.inr fp)))))] hpz (fun (fl2 : Nat → Int32) => [(w0, .inr (5, [.ref wk, .ref wl, .ref wc, .ref wp, .int wn, .int wh, .int wg])), (wl, .inl (cI, 125, .inl fl2)), (wc, .inl (cI, 3, .inl fc)), (wp, .inl (cP, 8, .inr (.inr (.inr (.inr fp)))))])) (va_A [(w0, .inr (5, [.ref wk, .ref wl, .ref wc, .ref wp, .int wn, .int wh, .int wg])), (wl, .inl (cI, 125, .inl fl)), (wc, .inl (cI, 3, .inl fc)), (wp, .inl (cP, 8, .inr (.inr (.inr (.inr fp)))))] hpz)) 0 0 (va_A [(w0, .inr (5, [.ref wk, .ref wl, .ref wc, .ref wp, .int wn, .int wh, .int wg])), (wl, .inl (cI, 125, .inl fl)), (wc, .inl (cI, 3, .inl fc)), (wp, .inl (cP, 8, .inr (.inr (.inr (.inr fp)))))] hpz) := by
  refine Met.ofW (cc := cX5_leastBy) (maxL := 8) (ret := (some .int)) (by decide) rfl ?_
  intro p e s m args below meth c s₁ B hml hv
  obtain ⟨rfl, hsz, hP, hK, hD0, hN, hZ⟩ := hv
  have hx := B.exec
  have hb := B.bytes
  have hr := B.returns
  have hts := atoms_spec (ws := wsX5_leastBy) B.pre
  have hown : s.vm.findClass RX5 = some m.cls := findClass_of_methodNamed B.named
  have hlocks := B.notSynchronized
  subst hsz
  have hD := hD0.self (sz := s.heap.size)
  have hA := zA_of hD
  have hl := lv_entry ([.ref w0, .ref u0, .int 4, .int d, .int sec]) (n := 8) (Nat.le_of_ble_eq_true rfl)
  rw [lg_entry_eq]
  generalize (lg_sl ([.ref w0, .ref u0, .int 4, .int d, .int sec]) ++ List.replicate (8 - (lg_sl ([.ref w0, .ref u0, .int 4, .int d, .int sec])).length) Slot.unset).toArray = ls at hl ⊢
  replace hl : lv_has ls 8 [(0, .ref w0), (1, .ref u0), (2, .int 4), (3, .int d), (4, .int sec)] := hl
  refine zw_begin hP hD (fun H locs hP1 hS => ?_)
  clear hP
  have hP := hP1
  clear hP1
  obtain ⟨⟨p1_u0, p2_u0⟩, ⟨p3_u0, p4_u0⟩, p5_u0, p6_u0⟩ := id hr_u0
  refine lv_aload_n hx hb dX5_leastBy_0 rfl (lv_at hl 1 rfl) ?_
  refine lv_iload_n hx hb dX5_leastBy_1 rfl (lv_at hl 3 rfl) ?_
  refine lv_aload_n hx hb dX5_leastBy_2 rfl (lv_at hl 0 rfl) ?_
  refine va_get (D := D) (ci := 5) (v := .int wh) (C := RX5) (T := TX5) (N := 7) hx hb hts hi_X5_leastBy_5 hown hK hP 0 rfl rfl 5 (by decide) (hts (.fieldLink RX5 31 "TheLiningsInIt$Ways" "hurry" "I") (List.mem_of_getElem? (i := 1) rfl)) (fun _ h9 => h9) rfl dX5_leastBy_3 ?_
  refine zc_V (As := [.int d, .int wh]) (rest := []) ⟨hx, hb, hml, hown, hts⟩ (c_Pull_waysAt l D cI cJ cZ cP cS po (d) (wh) u0 (ki) (a_) (ta) hu_u0 ⟨by omega, by omega, by omega, by omega⟩ hy9 hy10 hy4 hy5) (cwV 2 hts gX5_leastBy_X2_waysAt rfl rfl rfl ⟨rfl, dh_X2_waysAt⟩ ⟨Nat.le_of_ble_eq_true rfl, Nat.le_of_ble_eq_true rfl⟩) hK hN (hZ.kept hS) hP zP_nil (va_recv (q := (RX2, TX2, 3)) hK (zPu_P (hZ.kept hS) hu_u0) (ci := 2) (q0 := 0) rfl rfl) rfl hl.1 rfl (Nat.le_of_ble_eq_true rfl) dX5_leastBy_6 ⟨Nat.le_of_ble_eq_true rfl, Nat.le_of_ble_eq_true rfl⟩ (fun r_1 hr_1 => ?_)
  obtain ⟨g_2, g_3⟩ := hr_1
  refine lv_istore (lv' := [(5, .int r_1), (0, .ref w0), (1, .ref u0), (2, .int 4), (3, .int d), (4, .int sec)]) hx hb dX5_leastBy_9 hl (by decide) rfl (fun ls hl => ?_)
  refine lv_iload hx hb dX5_leastBy_11 (lv_at hl 5 rfl) ?_
  refine lv_aload_n hx hb dX5_leastBy_13 rfl (lv_at hl 2 rfl) ?_
  refine va_get (D := D) (ci := 2) (v := .int ta) (C := RX2) (T := TX2) (N := 3) hx hb hts hi_X5_leastBy_2 hown hK (zPu_P (hZ.kept hS) hu_u0) 0 rfl rfl 2 (by decide) (hts (.fieldLink RX5 49 "TheLiningsInIt$Pull" "takes" "I") (List.mem_of_getElem? (i := 2) rfl)) (fun _ h9 => h9) rfl dX5_leastBy_14 ?_
  refine lv_isub hx hb dX5_leastBy_17 ?_
  refine lv_topi (fun x_4 ex_4 => ?_)
  refine lv_istore (lv' := [(6, .int x_4), (5, .int r_1), (0, .ref w0), (1, .ref u0), (2, .int 4), (3, .int d), (4, .int sec)]) hx hb dX5_leastBy_18 hl (by decide) rfl (fun ls hl => ?_)
  refine lv_aload_n hx hb dX5_leastBy_20 rfl (lv_at hl 3 rfl) ?_
  refine va_get (D := D) (ci := 2) (v := .int ki) (C := RX2) (T := TX2) (N := 3) hx hb hts hi_X5_leastBy_2 hown hK (zPu_P (hZ.kept hS) hu_u0) 0 rfl rfl 0 (by decide) (hts (.fieldLink RX5 46 "TheLiningsInIt$Pull" "kind" "I") (List.mem_of_getElem? (i := 3) rfl)) (fun _ h9 => h9) rfl dX5_leastBy_21 ?_
  refine lv_iconst (v := 5) hx hb dX5_leastBy_24 (by decide) ?_
  refine lv_icmp_ne (tgt := 43) hx hb dX5_leastBy_25 (by decide) (fun c_5 => ?_) (fun c_5 => ?_)
  · have fc_5 : ki.toInt ≠ 5 := zf_ne c_5 rfl (by decide)
    refine lv_iconst (v := 0) hx hb dX5_leastBy_43 (by decide) ?_
    refine lv_istore (lv' := [(7, .int 0), (6, .int x_4), (5, .int r_1), (0, .ref w0), (1, .ref u0), (2, .int 4), (3, .int d), (4, .int sec)]) hx hb dX5_leastBy_44 hl (by decide) rfl (fun ls hl => ?_)
    refine lv_iload hx hb dX5_leastBy_46 (lv_at hl 2 rfl) ?_
    refine lv_if_le (tgt := 73) hx hb dX5_leastBy_48 (by decide) (fun c_6 => ?_) (fun c_6 => ?_)
    · have fc_6 : r_1.toInt ≤ 0 := zf_le c_6 rfl (by decide)
      refine lv_iload hx hb dX5_leastBy_73 (lv_at hl 2 rfl) ?_
      refine lv_bipush (v := 12) hx hb dX5_leastBy_75 (by decide) ?_
      refine lv_icmp_ge (tgt := 109) hx hb dX5_leastBy_77 (by decide) (fun c_7 => ?_) (fun c_7 => ?_)
      · exfalso; have fc_7 : 12 ≤ r_1.toInt := zf_le c_7 (by decide) rfl; omega
      · have fc_7 : r_1.toInt < 12 := zf_nle c_7 (by decide) rfl
        refine lv_iload hx hb dX5_leastBy_80 (lv_at hl 0 rfl) ?_
        refine lv_bipush (v := 12) hx hb dX5_leastBy_82 (by decide) ?_
        refine lv_iload hx hb dX5_leastBy_84 (lv_at hl 2 rfl) ?_
        refine lv_isub hx hb dX5_leastBy_86 ?_
        refine lv_topi (fun x_8 ex_8 => ?_)
        have qx_8 : x_8.toInt = 12 - r_1.toInt := by rw [ex_8]; exact zf_sub (by decide) rfl (by omega) (by omega)
        refine lv_aload_n hx hb dX5_leastBy_87 rfl (lv_at hl 3 rfl) ?_
        refine lv_iload_n hx hb dX5_leastBy_88 rfl (lv_at hl 5 rfl) ?_
        refine lv_iconst (v := 1) hx hb dX5_leastBy_89 (by decide) ?_
        refine lv_isub hx hb dX5_leastBy_90 ?_
        refine lv_topi (fun y_9 ey_9 => ?_)
        obtain rfl : y_9 = 3 := ey_9.trans (by decide)
        refine lv_aload_n hx hb dX5_leastBy_91 rfl (lv_at hl 4 rfl) ?_
        refine lv_iload_n hx hb dX5_leastBy_92 rfl (lv_at hl 6 rfl) ?_
        refine lv_aload_n hx hb dX5_leastBy_93 rfl (lv_at hl 3 rfl) ?_
        refine va_get (D := D) (ci := 5) (v := .int wh) (C := RX5) (T := TX5) (N := 7) hx hb hts hi_X5_leastBy_5 hown hK hP 0 rfl rfl 5 (by decide) (hts (.fieldLink RX5 31 "TheLiningsInIt$Ways" "hurry" "I") (List.mem_of_getElem? (i := 1) rfl)) (fun _ h9 => h9) rfl dX5_leastBy_94 ?_
        refine zc_V (As := [.int d, .int wh]) (rest := [.int 3, .ref w0, .int x_8, .int 0]) ⟨hx, hb, hml, hown, hts⟩ (c_Pull_deeper l D cI cJ cZ cP cS po (d) (wh) u0 (ki) (a_) (ta) hu_u0 ⟨by omega, by omega, by omega, by omega⟩ hy9 hy10 hy4 hy5) (cwV 2 hts gX5_leastBy_X2_deeper rfl rfl rfl ⟨rfl, dh_X2_deeper⟩ ⟨Nat.le_of_ble_eq_true rfl, Nat.le_of_ble_eq_true rfl⟩) hK hN (hZ.kept hS) hP zP_nil (va_recv (q := (RX2, TX2, 3)) hK (zPu_P (hZ.kept hS) hu_u0) (ci := 2) (q0 := 0) rfl rfl) rfl hl.1 rfl (Nat.le_of_ble_eq_true rfl) dX5_leastBy_97 ⟨Nat.le_of_ble_eq_true rfl, Nat.le_of_ble_eq_true rfl⟩ (fun r_10 hr_10 => ?_)
        obtain ⟨g_11, g_12⟩ := hr_10
        refine lv_iload hx hb dX5_leastBy_100 (lv_at hl 1 rfl) ?_
        skip
        refine zw_V (As := [.int 3, .int r_10, .int x_4]) (rest := [.int x_8, .int 0]) (wr := []) ⟨hx, hb, hml, hown, hts⟩ (c_W_least_3 l D cI cJ cZ cP cS po w0 wk wl wc wp (wn) (wh) (wg) fp fl fc (r_10) (x_4) hy2 hy3 hy4 hy5 hy6 hy7 hwp (by omega) (by omega) hp_fc H.size) (cwV 3 hts gX5_leastBy_X5_least rfl rfl rfl ⟨rfl, dh_X5_least⟩ ⟨Nat.le_of_ble_eq_true rfl, Nat.le_of_ble_eq_true rfl⟩) hK hN (hZ.kept hS) hP hD hS hA [0, 1, 2, 3] [] rfl rfl (by decide) (by decide) (by decide) (va_recv (q := (RX5, TX5, 7)) hK hP (ci := 5) (q0 := 0) rfl rfl) rfl hl.1 rfl (Nat.le_of_ble_eq_true rfl) dX5_leastBy_102 ⟨Nat.le_of_ble_eq_true rfl, Nat.le_of_ble_eq_true rfl⟩ (fun r_13 u_14 H locs hr_13 hP hD hS => ?_)
        obtain ⟨q_15, rfl⟩ : ∃ z, z = u_14 := ⟨_, rfl⟩
        have h9R := zRe (ws' := [(w0, .inr (5, [.ref wk, .ref wl, .ref wc, .ref wp, .int wn, .int wh, .int wg])), (wl, .inl (cI, 125, .inl q_15)), (wc, .inl (cI, 3, .inl fc)), (wp, .inl (cP, 8, .inr (.inr (.inr (.inr fp)))))]) hP hD rfl
        clear hP hD
        obtain ⟨hP, hD⟩ := h9R
        refine lv_imul hx hb dX5_leastBy_105 ?_
        refine lv_topi (fun x_16 ex_16 => ?_)
        refine lv_iadd hx hb dX5_leastBy_106 ?_
        refine lv_topi (fun x_17 ex_17 => ?_)
        have rbx_17 := zf_rng x_16
        have qx_17 : x_17.toInt = 0 + x_16.toInt := by rw [ex_17]; exact zf_add (by decide) rfl (by omega) (by omega)
        refine lv_istore (lv' := [(7, .int x_17), (6, .int x_4), (5, .int r_1), (0, .ref w0), (1, .ref u0), (2, .int 4), (3, .int d), (4, .int sec)]) hx hb dX5_leastBy_107 hl (by decide) rfl (fun ls hl => ?_)
        refine lv_iload hx hb dX5_leastBy_109 (lv_at hl 0 rfl) ?_
        exact W.iret (v := x_17) hx hb hr (fun t ht hW => ⟨⟨x_17, q_15, rfl, trivial, zRet ht hP hD [0, 1, 2, 3] (by decide) rfl⟩, hS.F ht⟩) hS.2.2 dX5_leastBy_111
    · have fc_6 : 0 < r_1.toInt := zf_nle c_6 rfl (by decide)
      refine lv_iload hx hb dX5_leastBy_51 (lv_at hl 0 rfl) ?_
      refine lv_iload hx hb dX5_leastBy_53 (lv_at hl 2 rfl) ?_
      refine lv_aload_n hx hb dX5_leastBy_55 rfl (lv_at hl 3 rfl) ?_
      refine lv_iload_n hx hb dX5_leastBy_56 rfl (lv_at hl 5 rfl) ?_
      refine lv_iconst (v := 1) hx hb dX5_leastBy_57 (by decide) ?_
      refine lv_isub hx hb dX5_leastBy_58 ?_
      refine lv_topi (fun y_18 ey_18 => ?_)
      obtain rfl : y_18 = 3 := ey_18.trans (by decide)
      refine lv_aload_n hx hb dX5_leastBy_59 rfl (lv_at hl 4 rfl) ?_
      refine lv_iload_n hx hb dX5_leastBy_60 rfl (lv_at hl 6 rfl) ?_
      refine zc_V (As := [.int d]) (rest := [.int 3, .ref w0, .int r_1, .int 0]) ⟨hx, hb, hml, hown, hts⟩ (c_Pull_shallower l D cI cJ cZ cP cS po (d) u0 (ki) (a_) (ta) hu_u0 ⟨by omega, by omega, by omega, by omega⟩ hy9 hy10) (cwV 1 hts gX5_leastBy_X2_shallower rfl rfl rfl ⟨rfl, dh_X2_shallower⟩ ⟨Nat.le_of_ble_eq_true rfl, Nat.le_of_ble_eq_true rfl⟩) hK hN (hZ.kept hS) hP zP_nil (va_recv (q := (RX2, TX2, 3)) hK (zPu_P (hZ.kept hS) hu_u0) (ci := 2) (q0 := 0) rfl rfl) rfl hl.1 rfl (Nat.le_of_ble_eq_true rfl) dX5_leastBy_61 ⟨Nat.le_of_ble_eq_true rfl, Nat.le_of_ble_eq_true rfl⟩ (fun r_19 hr_19 => ?_)
      obtain ⟨g_20, g_21⟩ := hr_19
      refine lv_iload hx hb dX5_leastBy_64 (lv_at hl 1 rfl) ?_
      skip
      refine zw_V (As := [.int 3, .int r_19, .int x_4]) (rest := [.int r_1, .int 0]) (wr := []) ⟨hx, hb, hml, hown, hts⟩ (c_W_least_3 l D cI cJ cZ cP cS po w0 wk wl wc wp (wn) (wh) (wg) fp fl fc (r_19) (x_4) hy2 hy3 hy4 hy5 hy6 hy7 hwp (by omega) (by omega) hp_fc H.size) (cwV 3 hts gX5_leastBy_X5_least rfl rfl rfl ⟨rfl, dh_X5_least⟩ ⟨Nat.le_of_ble_eq_true rfl, Nat.le_of_ble_eq_true rfl⟩) hK hN (hZ.kept hS) hP hD hS hA [0, 1, 2, 3] [] rfl rfl (by decide) (by decide) (by decide) (va_recv (q := (RX5, TX5, 7)) hK hP (ci := 5) (q0 := 0) rfl rfl) rfl hl.1 rfl (Nat.le_of_ble_eq_true rfl) dX5_leastBy_66 ⟨Nat.le_of_ble_eq_true rfl, Nat.le_of_ble_eq_true rfl⟩ (fun r_22 u_23 H locs hr_22 hP hD hS => ?_)
      obtain ⟨q_24, rfl⟩ : ∃ z, z = u_23 := ⟨_, rfl⟩
      have h9R := zRe (ws' := [(w0, .inr (5, [.ref wk, .ref wl, .ref wc, .ref wp, .int wn, .int wh, .int wg])), (wl, .inl (cI, 125, .inl q_24)), (wc, .inl (cI, 3, .inl fc)), (wp, .inl (cP, 8, .inr (.inr (.inr (.inr fp)))))]) hP hD rfl
      clear hP hD
      obtain ⟨hP, hD⟩ := h9R
      refine lv_imul hx hb dX5_leastBy_69 ?_
      refine lv_topi (fun x_25 ex_25 => ?_)
      refine lv_iadd hx hb dX5_leastBy_70 ?_
      refine lv_topi (fun x_26 ex_26 => ?_)
      have rbx_26 := zf_rng x_25
      have qx_26 : x_26.toInt = 0 + x_25.toInt := by rw [ex_26]; exact zf_add (by decide) rfl (by omega) (by omega)
      refine lv_istore (lv' := [(7, .int x_26), (6, .int x_4), (5, .int r_1), (0, .ref w0), (1, .ref u0), (2, .int 4), (3, .int d), (4, .int sec)]) hx hb dX5_leastBy_71 hl (by decide) rfl (fun ls hl => ?_)
      refine lv_iload hx hb dX5_leastBy_73 (lv_at hl 2 rfl) ?_
      refine lv_bipush (v := 12) hx hb dX5_leastBy_75 (by decide) ?_
      refine lv_icmp_ge (tgt := 109) hx hb dX5_leastBy_77 (by decide) (fun c_27 => ?_) (fun c_27 => ?_)
      · have fc_27 : 12 ≤ r_1.toInt := zf_le c_27 (by decide) rfl
        refine lv_iload hx hb dX5_leastBy_109 (lv_at hl 0 rfl) ?_
        exact W.iret (v := x_26) hx hb hr (fun t ht hW => ⟨⟨x_26, q_24, rfl, trivial, zRet ht hP hD [0, 1, 2, 3] (by decide) rfl⟩, hS.F ht⟩) hS.2.2 dX5_leastBy_111
      · have fc_27 : r_1.toInt < 12 := zf_nle c_27 (by decide) rfl
        refine lv_iload hx hb dX5_leastBy_80 (lv_at hl 0 rfl) ?_
        refine lv_bipush (v := 12) hx hb dX5_leastBy_82 (by decide) ?_
        refine lv_iload hx hb dX5_leastBy_84 (lv_at hl 2 rfl) ?_
        refine lv_isub hx hb dX5_leastBy_86 ?_
        refine lv_topi (fun x_28 ex_28 => ?_)
        have qx_28 : x_28.toInt = 12 - r_1.toInt := by rw [ex_28]; exact zf_sub (by decide) rfl (by omega) (by omega)
        refine lv_aload_n hx hb dX5_leastBy_87 rfl (lv_at hl 3 rfl) ?_
        refine lv_iload_n hx hb dX5_leastBy_88 rfl (lv_at hl 5 rfl) ?_
        refine lv_iconst (v := 1) hx hb dX5_leastBy_89 (by decide) ?_
        refine lv_isub hx hb dX5_leastBy_90 ?_
        refine lv_topi (fun y_29 ey_29 => ?_)
        obtain rfl : y_29 = 3 := ey_29.trans (by decide)
        refine lv_aload_n hx hb dX5_leastBy_91 rfl (lv_at hl 4 rfl) ?_
        refine lv_iload_n hx hb dX5_leastBy_92 rfl (lv_at hl 6 rfl) ?_
        refine lv_aload_n hx hb dX5_leastBy_93 rfl (lv_at hl 3 rfl) ?_
        refine va_get (D := D) (ci := 5) (v := .int wh) (C := RX5) (T := TX5) (N := 7) hx hb hts hi_X5_leastBy_5 hown hK hP 0 rfl rfl 5 (by decide) (hts (.fieldLink RX5 31 "TheLiningsInIt$Ways" "hurry" "I") (List.mem_of_getElem? (i := 1) rfl)) (fun _ h9 => h9) rfl dX5_leastBy_94 ?_
        refine zc_V (As := [.int d, .int wh]) (rest := [.int 3, .ref w0, .int x_28, .int x_26]) ⟨hx, hb, hml, hown, hts⟩ (c_Pull_deeper l D cI cJ cZ cP cS po (d) (wh) u0 (ki) (a_) (ta) hu_u0 ⟨by omega, by omega, by omega, by omega⟩ hy9 hy10 hy4 hy5) (cwV 2 hts gX5_leastBy_X2_deeper rfl rfl rfl ⟨rfl, dh_X2_deeper⟩ ⟨Nat.le_of_ble_eq_true rfl, Nat.le_of_ble_eq_true rfl⟩) hK hN (hZ.kept hS) hP zP_nil (va_recv (q := (RX2, TX2, 3)) hK (zPu_P (hZ.kept hS) hu_u0) (ci := 2) (q0 := 0) rfl rfl) rfl hl.1 rfl (Nat.le_of_ble_eq_true rfl) dX5_leastBy_97 ⟨Nat.le_of_ble_eq_true rfl, Nat.le_of_ble_eq_true rfl⟩ (fun r_30 hr_30 => ?_)
        obtain ⟨g_31, g_32⟩ := hr_30
        refine lv_iload hx hb dX5_leastBy_100 (lv_at hl 1 rfl) ?_
        skip
        refine zw_V (As := [.int 3, .int r_30, .int x_4]) (rest := [.int x_28, .int x_26]) (wr := []) ⟨hx, hb, hml, hown, hts⟩ (c_W_least_3 l D cI cJ cZ cP cS po w0 wk wl wc wp (wn) (wh) (wg) fp q_24 fc (r_30) (x_4) hy2 hy3 hy4 hy5 hy6 hy7 hwp (by omega) (by omega) hp_fc H.size) (cwV 3 hts gX5_leastBy_X5_least rfl rfl rfl ⟨rfl, dh_X5_least⟩ ⟨Nat.le_of_ble_eq_true rfl, Nat.le_of_ble_eq_true rfl⟩) hK hN (hZ.kept hS) hP hD hS hA [0, 1, 2, 3] [] rfl rfl (by decide) (by decide) (by decide) (va_recv (q := (RX5, TX5, 7)) hK hP (ci := 5) (q0 := 0) rfl rfl) rfl hl.1 rfl (Nat.le_of_ble_eq_true rfl) dX5_leastBy_102 ⟨Nat.le_of_ble_eq_true rfl, Nat.le_of_ble_eq_true rfl⟩ (fun r_33 u_34 H locs hr_33 hP hD hS => ?_)
        obtain ⟨q_35, rfl⟩ : ∃ z, z = u_34 := ⟨_, rfl⟩
        have h9R := zRe (ws' := [(w0, .inr (5, [.ref wk, .ref wl, .ref wc, .ref wp, .int wn, .int wh, .int wg])), (wl, .inl (cI, 125, .inl q_35)), (wc, .inl (cI, 3, .inl fc)), (wp, .inl (cP, 8, .inr (.inr (.inr (.inr fp)))))]) hP hD rfl
        clear hP hD
        obtain ⟨hP, hD⟩ := h9R
        refine lv_imul hx hb dX5_leastBy_105 ?_
        refine lv_topi (fun x_36 ex_36 => ?_)
        refine lv_iadd hx hb dX5_leastBy_106 ?_
        refine lv_topi (fun x_37 ex_37 => ?_)
        refine lv_istore (lv' := [(7, .int x_37), (6, .int x_4), (5, .int r_1), (0, .ref w0), (1, .ref u0), (2, .int 4), (3, .int d), (4, .int sec)]) hx hb dX5_leastBy_107 hl (by decide) rfl (fun ls hl => ?_)
        refine lv_iload hx hb dX5_leastBy_109 (lv_at hl 0 rfl) ?_
        exact W.iret (v := x_37) hx hb hr (fun t ht hW => ⟨⟨x_37, q_35, rfl, trivial, zRet ht hP hD [0, 1, 2, 3] (by decide) rfl⟩, hS.F ht⟩) hS.2.2 dX5_leastBy_111
  · have fc_5 : ki.toInt = 5 := zf_eq c_5 rfl (by decide)
    obtain ⟨t_38, zt_38, yt_38⟩ := hZ.1.1
    refine va_gets hx hb zt_38 hS hown (hts (.fieldLink RX5 79 "TheLiningsInIt$Ways" "POWERS" "[I") (List.mem_of_getElem? (i := 4) rfl)) (fun _ h9 => h9) dX5_leastBy_28 ?_
    refine lv_iload_n hx hb dX5_leastBy_31 rfl (lv_at hl 4 rfl) ?_
    refine va_ti hx hb yt_38 hS (zf_in (by decide) (by decide)) (v := .int 20736) (by decide) dX5_leastBy_32 ?_
    refine lv_aload_n hx hb dX5_leastBy_33 rfl (lv_at hl 2 rfl) ?_
    refine va_get (D := D) (ci := 5) (v := .ref wc) (C := RX5) (T := TX5) (N := 7) hx hb hts hi_X5_leastBy_5 hown hK hP 0 rfl rfl 2 (by decide) (hts (.fieldLink RX5 18 "TheLiningsInIt$Ways" "costs" "[I") (List.mem_of_getElem? (i := 5) rfl)) (fun _ h9 => h9) rfl dX5_leastBy_34 ?_
    refine lv_iconst (v := 0) hx hb dX5_leastBy_37 (by decide) ?_
    refine va_iald hx hb hK hP 2 0 rfl rfl (zf_in (by decide) (by decide)) dX5_leastBy_38 ?_
    refine lv_topi (fun x_39 ex_39 => ?_)
    have bx_39 : 0 ≤ x_39.toInt ∧ x_39.toInt ≤ 99 := by rw [ex_39]; exact hp_fc _
    refine lv_imul hx hb dX5_leastBy_39 ?_
    refine lv_topi (fun x_40 ex_40 => ?_)
    have qx_40 : x_40.toInt = 20736 * x_39.toInt := by rw [ex_40]; exact zf_mul (by decide) rfl (by omega) (by omega)
    refine lv_goto (tgt := 44) hx hb dX5_leastBy_40 (by decide) ?_
    refine lv_istore (lv' := [(7, .int x_40), (6, .int x_4), (5, .int r_1), (0, .ref w0), (1, .ref u0), (2, .int 4), (3, .int d), (4, .int sec)]) hx hb dX5_leastBy_44 hl (by decide) rfl (fun ls hl => ?_)
    refine lv_iload hx hb dX5_leastBy_46 (lv_at hl 2 rfl) ?_
    refine lv_if_le (tgt := 73) hx hb dX5_leastBy_48 (by decide) (fun c_41 => ?_) (fun c_41 => ?_)
    · have fc_41 : r_1.toInt ≤ 0 := zf_le c_41 rfl (by decide)
      refine lv_iload hx hb dX5_leastBy_73 (lv_at hl 2 rfl) ?_
      refine lv_bipush (v := 12) hx hb dX5_leastBy_75 (by decide) ?_
      refine lv_icmp_ge (tgt := 109) hx hb dX5_leastBy_77 (by decide) (fun c_42 => ?_) (fun c_42 => ?_)
      · exfalso; have fc_42 : 12 ≤ r_1.toInt := zf_le c_42 (by decide) rfl; omega
      · have fc_42 : r_1.toInt < 12 := zf_nle c_42 (by decide) rfl
        refine lv_iload hx hb dX5_leastBy_80 (lv_at hl 0 rfl) ?_
        refine lv_bipush (v := 12) hx hb dX5_leastBy_82 (by decide) ?_
        refine lv_iload hx hb dX5_leastBy_84 (lv_at hl 2 rfl) ?_
        refine lv_isub hx hb dX5_leastBy_86 ?_
        refine lv_topi (fun x_43 ex_43 => ?_)
        have qx_43 : x_43.toInt = 12 - r_1.toInt := by rw [ex_43]; exact zf_sub (by decide) rfl (by omega) (by omega)
        refine lv_aload_n hx hb dX5_leastBy_87 rfl (lv_at hl 3 rfl) ?_
        refine lv_iload_n hx hb dX5_leastBy_88 rfl (lv_at hl 5 rfl) ?_
        refine lv_iconst (v := 1) hx hb dX5_leastBy_89 (by decide) ?_
        refine lv_isub hx hb dX5_leastBy_90 ?_
        refine lv_topi (fun y_44 ey_44 => ?_)
        obtain rfl : y_44 = 3 := ey_44.trans (by decide)
        refine lv_aload_n hx hb dX5_leastBy_91 rfl (lv_at hl 4 rfl) ?_
        refine lv_iload_n hx hb dX5_leastBy_92 rfl (lv_at hl 6 rfl) ?_
        refine lv_aload_n hx hb dX5_leastBy_93 rfl (lv_at hl 3 rfl) ?_
        refine va_get (D := D) (ci := 5) (v := .int wh) (C := RX5) (T := TX5) (N := 7) hx hb hts hi_X5_leastBy_5 hown hK hP 0 rfl rfl 5 (by decide) (hts (.fieldLink RX5 31 "TheLiningsInIt$Ways" "hurry" "I") (List.mem_of_getElem? (i := 1) rfl)) (fun _ h9 => h9) rfl dX5_leastBy_94 ?_
        refine zc_V (As := [.int d, .int wh]) (rest := [.int 3, .ref w0, .int x_43, .int x_40]) ⟨hx, hb, hml, hown, hts⟩ (c_Pull_deeper l D cI cJ cZ cP cS po (d) (wh) u0 (ki) (a_) (ta) hu_u0 ⟨by omega, by omega, by omega, by omega⟩ hy9 hy10 hy4 hy5) (cwV 2 hts gX5_leastBy_X2_deeper rfl rfl rfl ⟨rfl, dh_X2_deeper⟩ ⟨Nat.le_of_ble_eq_true rfl, Nat.le_of_ble_eq_true rfl⟩) hK hN (hZ.kept hS) hP zP_nil (va_recv (q := (RX2, TX2, 3)) hK (zPu_P (hZ.kept hS) hu_u0) (ci := 2) (q0 := 0) rfl rfl) rfl hl.1 rfl (Nat.le_of_ble_eq_true rfl) dX5_leastBy_97 ⟨Nat.le_of_ble_eq_true rfl, Nat.le_of_ble_eq_true rfl⟩ (fun r_45 hr_45 => ?_)
        obtain ⟨g_46, g_47⟩ := hr_45
        refine lv_iload hx hb dX5_leastBy_100 (lv_at hl 1 rfl) ?_
        skip
        refine zw_V (As := [.int 3, .int r_45, .int x_4]) (rest := [.int x_43, .int x_40]) (wr := []) ⟨hx, hb, hml, hown, hts⟩ (c_W_least_3 l D cI cJ cZ cP cS po w0 wk wl wc wp (wn) (wh) (wg) fp fl fc (r_45) (x_4) hy2 hy3 hy4 hy5 hy6 hy7 hwp (by omega) (by omega) hp_fc H.size) (cwV 3 hts gX5_leastBy_X5_least rfl rfl rfl ⟨rfl, dh_X5_least⟩ ⟨Nat.le_of_ble_eq_true rfl, Nat.le_of_ble_eq_true rfl⟩) hK hN (hZ.kept hS) hP hD hS hA [0, 1, 2, 3] [] rfl rfl (by decide) (by decide) (by decide) (va_recv (q := (RX5, TX5, 7)) hK hP (ci := 5) (q0 := 0) rfl rfl) rfl hl.1 rfl (Nat.le_of_ble_eq_true rfl) dX5_leastBy_102 ⟨Nat.le_of_ble_eq_true rfl, Nat.le_of_ble_eq_true rfl⟩ (fun r_48 u_49 H locs hr_48 hP hD hS => ?_)
        obtain ⟨q_50, rfl⟩ : ∃ z, z = u_49 := ⟨_, rfl⟩
        have h9R := zRe (ws' := [(w0, .inr (5, [.ref wk, .ref wl, .ref wc, .ref wp, .int wn, .int wh, .int wg])), (wl, .inl (cI, 125, .inl q_50)), (wc, .inl (cI, 3, .inl fc)), (wp, .inl (cP, 8, .inr (.inr (.inr (.inr fp)))))]) hP hD rfl
        clear hP hD
        obtain ⟨hP, hD⟩ := h9R
        refine lv_imul hx hb dX5_leastBy_105 ?_
        refine lv_topi (fun x_51 ex_51 => ?_)
        refine lv_iadd hx hb dX5_leastBy_106 ?_
        refine lv_topi (fun x_52 ex_52 => ?_)
        refine lv_istore (lv' := [(7, .int x_52), (6, .int x_4), (5, .int r_1), (0, .ref w0), (1, .ref u0), (2, .int 4), (3, .int d), (4, .int sec)]) hx hb dX5_leastBy_107 hl (by decide) rfl (fun ls hl => ?_)
        refine lv_iload hx hb dX5_leastBy_109 (lv_at hl 0 rfl) ?_
        exact W.iret (v := x_52) hx hb hr (fun t ht hW => ⟨⟨x_52, q_50, rfl, trivial, zRet ht hP hD [0, 1, 2, 3] (by decide) rfl⟩, hS.F ht⟩) hS.2.2 dX5_leastBy_111
    · have fc_41 : 0 < r_1.toInt := zf_nle c_41 rfl (by decide)
      refine lv_iload hx hb dX5_leastBy_51 (lv_at hl 0 rfl) ?_
      refine lv_iload hx hb dX5_leastBy_53 (lv_at hl 2 rfl) ?_
      refine lv_aload_n hx hb dX5_leastBy_55 rfl (lv_at hl 3 rfl) ?_
      refine lv_iload_n hx hb dX5_leastBy_56 rfl (lv_at hl 5 rfl) ?_
      refine lv_iconst (v := 1) hx hb dX5_leastBy_57 (by decide) ?_
      refine lv_isub hx hb dX5_leastBy_58 ?_
      refine lv_topi (fun y_53 ey_53 => ?_)
      obtain rfl : y_53 = 3 := ey_53.trans (by decide)
      refine lv_aload_n hx hb dX5_leastBy_59 rfl (lv_at hl 4 rfl) ?_
      refine lv_iload_n hx hb dX5_leastBy_60 rfl (lv_at hl 6 rfl) ?_
      refine zc_V (As := [.int d]) (rest := [.int 3, .ref w0, .int r_1, .int x_40]) ⟨hx, hb, hml, hown, hts⟩ (c_Pull_shallower l D cI cJ cZ cP cS po (d) u0 (ki) (a_) (ta) hu_u0 ⟨by omega, by omega, by omega, by omega⟩ hy9 hy10) (cwV 1 hts gX5_leastBy_X2_shallower rfl rfl rfl ⟨rfl, dh_X2_shallower⟩ ⟨Nat.le_of_ble_eq_true rfl, Nat.le_of_ble_eq_true rfl⟩) hK hN (hZ.kept hS) hP zP_nil (va_recv (q := (RX2, TX2, 3)) hK (zPu_P (hZ.kept hS) hu_u0) (ci := 2) (q0 := 0) rfl rfl) rfl hl.1 rfl (Nat.le_of_ble_eq_true rfl) dX5_leastBy_61 ⟨Nat.le_of_ble_eq_true rfl, Nat.le_of_ble_eq_true rfl⟩ (fun r_54 hr_54 => ?_)
      obtain ⟨g_55, g_56⟩ := hr_54
      refine lv_iload hx hb dX5_leastBy_64 (lv_at hl 1 rfl) ?_
      skip
      refine zw_V (As := [.int 3, .int r_54, .int x_4]) (rest := [.int r_1, .int x_40]) (wr := []) ⟨hx, hb, hml, hown, hts⟩ (c_W_least_3 l D cI cJ cZ cP cS po w0 wk wl wc wp (wn) (wh) (wg) fp fl fc (r_54) (x_4) hy2 hy3 hy4 hy5 hy6 hy7 hwp (by omega) (by omega) hp_fc H.size) (cwV 3 hts gX5_leastBy_X5_least rfl rfl rfl ⟨rfl, dh_X5_least⟩ ⟨Nat.le_of_ble_eq_true rfl, Nat.le_of_ble_eq_true rfl⟩) hK hN (hZ.kept hS) hP hD hS hA [0, 1, 2, 3] [] rfl rfl (by decide) (by decide) (by decide) (va_recv (q := (RX5, TX5, 7)) hK hP (ci := 5) (q0 := 0) rfl rfl) rfl hl.1 rfl (Nat.le_of_ble_eq_true rfl) dX5_leastBy_66 ⟨Nat.le_of_ble_eq_true rfl, Nat.le_of_ble_eq_true rfl⟩ (fun r_57 u_58 H locs hr_57 hP hD hS => ?_)
      obtain ⟨q_59, rfl⟩ : ∃ z, z = u_58 := ⟨_, rfl⟩
      have h9R := zRe (ws' := [(w0, .inr (5, [.ref wk, .ref wl, .ref wc, .ref wp, .int wn, .int wh, .int wg])), (wl, .inl (cI, 125, .inl q_59)), (wc, .inl (cI, 3, .inl fc)), (wp, .inl (cP, 8, .inr (.inr (.inr (.inr fp)))))]) hP hD rfl
      clear hP hD
      obtain ⟨hP, hD⟩ := h9R
      refine lv_imul hx hb dX5_leastBy_69 ?_
      refine lv_topi (fun x_60 ex_60 => ?_)
      refine lv_iadd hx hb dX5_leastBy_70 ?_
      refine lv_topi (fun x_61 ex_61 => ?_)
      refine lv_istore (lv' := [(7, .int x_61), (6, .int x_4), (5, .int r_1), (0, .ref w0), (1, .ref u0), (2, .int 4), (3, .int d), (4, .int sec)]) hx hb dX5_leastBy_71 hl (by decide) rfl (fun ls hl => ?_)
      refine lv_iload hx hb dX5_leastBy_73 (lv_at hl 2 rfl) ?_
      refine lv_bipush (v := 12) hx hb dX5_leastBy_75 (by decide) ?_
      refine lv_icmp_ge (tgt := 109) hx hb dX5_leastBy_77 (by decide) (fun c_62 => ?_) (fun c_62 => ?_)
      · have fc_62 : 12 ≤ r_1.toInt := zf_le c_62 (by decide) rfl
        refine lv_iload hx hb dX5_leastBy_109 (lv_at hl 0 rfl) ?_
        exact W.iret (v := x_61) hx hb hr (fun t ht hW => ⟨⟨x_61, q_59, rfl, trivial, zRet ht hP hD [0, 1, 2, 3] (by decide) rfl⟩, hS.F ht⟩) hS.2.2 dX5_leastBy_111
      · have fc_62 : r_1.toInt < 12 := zf_nle c_62 (by decide) rfl
        refine lv_iload hx hb dX5_leastBy_80 (lv_at hl 0 rfl) ?_
        refine lv_bipush (v := 12) hx hb dX5_leastBy_82 (by decide) ?_
        refine lv_iload hx hb dX5_leastBy_84 (lv_at hl 2 rfl) ?_
        refine lv_isub hx hb dX5_leastBy_86 ?_
        refine lv_topi (fun x_63 ex_63 => ?_)
        have qx_63 : x_63.toInt = 12 - r_1.toInt := by rw [ex_63]; exact zf_sub (by decide) rfl (by omega) (by omega)
        refine lv_aload_n hx hb dX5_leastBy_87 rfl (lv_at hl 3 rfl) ?_
        refine lv_iload_n hx hb dX5_leastBy_88 rfl (lv_at hl 5 rfl) ?_
        refine lv_iconst (v := 1) hx hb dX5_leastBy_89 (by decide) ?_
        refine lv_isub hx hb dX5_leastBy_90 ?_
        refine lv_topi (fun y_64 ey_64 => ?_)
        obtain rfl : y_64 = 3 := ey_64.trans (by decide)
        refine lv_aload_n hx hb dX5_leastBy_91 rfl (lv_at hl 4 rfl) ?_
        refine lv_iload_n hx hb dX5_leastBy_92 rfl (lv_at hl 6 rfl) ?_
        refine lv_aload_n hx hb dX5_leastBy_93 rfl (lv_at hl 3 rfl) ?_
        refine va_get (D := D) (ci := 5) (v := .int wh) (C := RX5) (T := TX5) (N := 7) hx hb hts hi_X5_leastBy_5 hown hK hP 0 rfl rfl 5 (by decide) (hts (.fieldLink RX5 31 "TheLiningsInIt$Ways" "hurry" "I") (List.mem_of_getElem? (i := 1) rfl)) (fun _ h9 => h9) rfl dX5_leastBy_94 ?_
        refine zc_V (As := [.int d, .int wh]) (rest := [.int 3, .ref w0, .int x_63, .int x_61]) ⟨hx, hb, hml, hown, hts⟩ (c_Pull_deeper l D cI cJ cZ cP cS po (d) (wh) u0 (ki) (a_) (ta) hu_u0 ⟨by omega, by omega, by omega, by omega⟩ hy9 hy10 hy4 hy5) (cwV 2 hts gX5_leastBy_X2_deeper rfl rfl rfl ⟨rfl, dh_X2_deeper⟩ ⟨Nat.le_of_ble_eq_true rfl, Nat.le_of_ble_eq_true rfl⟩) hK hN (hZ.kept hS) hP zP_nil (va_recv (q := (RX2, TX2, 3)) hK (zPu_P (hZ.kept hS) hu_u0) (ci := 2) (q0 := 0) rfl rfl) rfl hl.1 rfl (Nat.le_of_ble_eq_true rfl) dX5_leastBy_97 ⟨Nat.le_of_ble_eq_true rfl, Nat.le_of_ble_eq_true rfl⟩ (fun r_65 hr_65 => ?_)
        obtain ⟨g_66, g_67⟩ := hr_65
        refine lv_iload hx hb dX5_leastBy_100 (lv_at hl 1 rfl) ?_
        skip
        refine zw_V (As := [.int 3, .int r_65, .int x_4]) (rest := [.int x_63, .int x_61]) (wr := []) ⟨hx, hb, hml, hown, hts⟩ (c_W_least_3 l D cI cJ cZ cP cS po w0 wk wl wc wp (wn) (wh) (wg) fp q_59 fc (r_65) (x_4) hy2 hy3 hy4 hy5 hy6 hy7 hwp (by omega) (by omega) hp_fc H.size) (cwV 3 hts gX5_leastBy_X5_least rfl rfl rfl ⟨rfl, dh_X5_least⟩ ⟨Nat.le_of_ble_eq_true rfl, Nat.le_of_ble_eq_true rfl⟩) hK hN (hZ.kept hS) hP hD hS hA [0, 1, 2, 3] [] rfl rfl (by decide) (by decide) (by decide) (va_recv (q := (RX5, TX5, 7)) hK hP (ci := 5) (q0 := 0) rfl rfl) rfl hl.1 rfl (Nat.le_of_ble_eq_true rfl) dX5_leastBy_102 ⟨Nat.le_of_ble_eq_true rfl, Nat.le_of_ble_eq_true rfl⟩ (fun r_68 u_69 H locs hr_68 hP hD hS => ?_)
        obtain ⟨q_70, rfl⟩ : ∃ z, z = u_69 := ⟨_, rfl⟩
        have h9R := zRe (ws' := [(w0, .inr (5, [.ref wk, .ref wl, .ref wc, .ref wp, .int wn, .int wh, .int wg])), (wl, .inl (cI, 125, .inl q_70)), (wc, .inl (cI, 3, .inl fc)), (wp, .inl (cP, 8, .inr (.inr (.inr (.inr fp)))))]) hP hD rfl
        clear hP hD
        obtain ⟨hP, hD⟩ := h9R
        refine lv_imul hx hb dX5_leastBy_105 ?_
        refine lv_topi (fun x_71 ex_71 => ?_)
        refine lv_iadd hx hb dX5_leastBy_106 ?_
        refine lv_topi (fun x_72 ex_72 => ?_)
        refine lv_istore (lv' := [(7, .int x_72), (6, .int x_4), (5, .int r_1), (0, .ref w0), (1, .ref u0), (2, .int 4), (3, .int d), (4, .int sec)]) hx hb dX5_leastBy_107 hl (by decide) rfl (fun ls hl => ?_)
        refine lv_iload hx hb dX5_leastBy_109 (lv_at hl 0 rfl) ?_
        exact W.iret (v := x_72) hx hb hr (fun t ht hW => ⟨⟨x_72, q_70, rfl, trivial, zRet ht hP hD [0, 1, 2, 3] (by decide) rfl⟩, hS.F ht⟩) hS.2.2 dX5_leastBy_111
set_option maxHeartbeats 4000000 in
set_option maxRecDepth 100000 in
theorem c_W_least_4 (l : Launch) (D : va_G) (cI cJ cZ cP cS : ClassId) (po : zPool) (w0 wk wl wc wp : Nat) (wn wh wg : Int32) (fp : Nat → Option Nat) (fl fc : Nat → Int32) (d sec : Int32) (hy0 : 0 ≤ wn.toInt) (hy1 : wn.toInt ≤ 8) (hy2 : 0 ≤ wh.toInt) (hy3 : wh.toInt ≤ 9) (hy4 : 0 ≤ wg.toInt) (hy5 : wg.toInt ≤ 60) (hwp : zWP po fp) (hy7 : 0 ≤ d.toInt) (hy8 : d.toInt ≤ 24) (hp_fc : zRg fc (0) 99) (hpz : Nat) : Met l yX5_least wsX5_least ({ frames := 10, cells := 0, slots := 0, locals := 263 }) (va_Pc [.ref w0, .int 4, .int d, .int sec] (zW D (zKT cI cJ cZ cP cS) po [(w0, .inr (5, [.ref wk, .ref wl, .ref wc, .ref wp, .int wn, .int wh, .int wg])), (wl, .inl (cI, 125, .inl fl)), (wc, .inl (cI, 3, .inl fc)), (wp, .inl (cP, 8, .inr (.inr (.inr (.inr fp)))))] hpz)) (va_Qi (fun (r : Int32) (fl2 : (Nat → Int32)) => True) (zB D [(w0, .inr (5, [.ref wk, .ref wl, .ref wc, .ref wp, .int wn, .int wh, .int wg])), (wl, .inl (cI, 125, .inl fl)), (wc, .inl (cI, 3, .inl fc)), (wp, .inl (cP, 8, .inr (.inr (.inr (.inr fp)))))] hpz (fun (fl2 : Nat → Int32) => [(w0, .inr (5, [.ref wk, .ref wl, .ref wc, .ref wp, .int wn, .int wh, .int wg])), (wl, .inl (cI, 125, .inl fl2)), (wc, .inl (cI, 3, .inl fc)), (wp, .inl (cP, 8, .inr (.inr (.inr (.inr fp)))))])) (va_A [(w0, .inr (5, [.ref wk, .ref wl, .ref wc, .ref wp, .int wn, .int wh, .int wg])), (wl, .inl (cI, 125, .inl fl)), (wc, .inl (cI, 3, .inl fc)), (wp, .inl (cP, 8, .inr (.inr (.inr (.inr fp)))))] hpz)) 0 0 (va_A [(w0, .inr (5, [.ref wk, .ref wl, .ref wc, .ref wp, .int wn, .int wh, .int wg])), (wl, .inl (cI, 125, .inl fl)), (wc, .inl (cI, 3, .inl fc)), (wp, .inl (cP, 8, .inr (.inr (.inr (.inr fp)))))] hpz) := by
  refine Met.ofW (cc := cX5_least) (maxL := 9) (ret := (some .int)) (by decide) rfl ?_
  intro p e s m args below meth c s₁ B hml hv
  obtain ⟨rfl, hsz, hP, hK, hD0, hN, hZ⟩ := hv
  have hx := B.exec
  have hb := B.bytes
  have hr := B.returns
  have hts := atoms_spec (ws := wsX5_least) B.pre
  have hown : s.vm.findClass RX5 = some m.cls := findClass_of_methodNamed B.named
  have hlocks := B.notSynchronized
  subst hsz
  have hD := hD0.self (sz := s.heap.size)
  have hA := zA_of hD
  have hl := lv_entry ([.ref w0, .int 4, .int d, .int sec]) (n := 9) (Nat.le_of_ble_eq_true rfl)
  rw [lg_entry_eq]
  generalize (lg_sl ([.ref w0, .int 4, .int d, .int sec]) ++ List.replicate (9 - (lg_sl ([.ref w0, .int 4, .int d, .int sec])).length) Slot.unset).toArray = ls at hl ⊢
  replace hl : lv_has ls 9 [(0, .ref w0), (1, .int 4), (2, .int d), (3, .int sec)] := hl
  refine zw_begin hP hD (fun H locs hP1 hS => ?_)
  clear hP
  have hP := hP1
  clear hP1
  refine lv_iload_n hx hb dX5_least_0 rfl (lv_at hl 1 rfl) ?_
  refine lv_if_lt (tgt := 20) hx hb dX5_least_1 (by decide) (fun c_1 => ?_) (fun c_1 => ?_)
  · exact absurd c_1 (by decide)
  · refine lv_iload_n hx hb dX5_least_4 rfl (lv_at hl 1 rfl) ?_
    refine lv_iconst (v := 4) hx hb dX5_least_5 (by decide) ?_
    refine lv_icmp_gt (tgt := 20) hx hb dX5_least_6 (by decide) (fun c_2 => ?_) (fun c_2 => ?_)
    · exact absurd c_2 (by decide)
    · refine lv_iload_n hx hb dX5_least_9 rfl (lv_at hl 2 rfl) ?_
      refine lv_iconst (v := 1) hx hb dX5_least_10 (by decide) ?_
      refine lv_icmp_lt (tgt := 20) hx hb dX5_least_11 (by decide) (fun c_3 => ?_) (fun c_3 => ?_)
      · have fc_3 : d.toInt < 1 := zf_lt c_3 rfl (by decide)
        refine lv_iconst (v := 0) hx hb dX5_least_20 (by decide) ?_
        exact W.iret (v := 0) hx hb hr (fun t ht hW => ⟨⟨0, fl, rfl, trivial, zRet ht hP hD [0, 1, 2, 3] (by decide) rfl⟩, hS.F ht⟩) hS.2.2 dX5_least_21
      · have fc_3 : 1 ≤ d.toInt := zf_nlt c_3 rfl (by decide)
        refine lv_iload_n hx hb dX5_least_14 rfl (lv_at hl 2 rfl) ?_
        refine lv_bipush (v := 24) hx hb dX5_least_15 (by decide) ?_
        refine lv_icmp_le (tgt := 22) hx hb dX5_least_17 (by decide) (fun c_4 => ?_) (fun c_4 => ?_)
        · have fc_4 : d.toInt ≤ 24 := zf_le c_4 rfl (by decide)
          refine lv_iload_n hx hb dX5_least_22 rfl (lv_at hl 3 rfl) ?_
          refine lv_iload_n hx hb dX5_least_23 rfl (lv_at hl 1 rfl) ?_
          refine lv_aload_n hx hb dX5_least_24 rfl (lv_at hl 0 rfl) ?_
          refine va_get (D := D) (ci := 5) (v := .int wg) (C := RX5) (T := TX5) (N := 7) hx hb hts hi_X5_least_5 hown hK hP 0 rfl rfl 6 (by decide) (hts (.fieldLink RX5 34 "TheLiningsInIt$Ways" "longest" "I") (List.mem_of_getElem? (i := 1) rfl)) (fun _ h9 => h9) rfl dX5_least_25 ?_
          refine lv_imul hx hb dX5_least_28 ?_
          refine lv_topi (fun x_5 ex_5 => ?_)
          have qx_5 : x_5.toInt = 4 * wg.toInt := by rw [ex_5]; exact zf_mul (by decide) rfl (by omega) (by omega)
          refine lv_bipush (v := 30) hx hb dX5_least_29 (by decide) ?_
          refine lv_iadd hx hb dX5_least_31 ?_
          refine lv_topi (fun x_6 ex_6 => ?_)
          have qx_6 : x_6.toInt = x_5.toInt + 30 := by rw [ex_6]; exact zf_add rfl (by decide) (by omega) (by omega)
          refine lv_icmp_lt (tgt := 39) hx hb dX5_least_32 (by decide) (fun c_7 => ?_) (fun c_7 => ?_)
          · have fc_7 : sec.toInt < x_6.toInt := zf_lt c_7 rfl rfl
            refine lv_iconst (v := 0) hx hb dX5_least_39 (by decide) ?_
            refine lv_istore (lv' := [(4, .int 0), (0, .ref w0), (1, .int 4), (2, .int d), (3, .int sec)]) hx hb dX5_least_40 hl (by decide) rfl (fun ls hl => ?_)
            refine lv_iload_n hx hb dX5_least_42 rfl (lv_at hl 2 rfl) ?_
            refine lv_bipush (v := 25) hx hb dX5_least_43 (by decide) ?_
            refine lv_imul hx hb dX5_least_45 ?_
            refine lv_topi (fun y_8 ey_8 => ?_)
            obtain rfl : y_8 = 100 := ey_8.trans (by decide)
            refine lv_iload_n hx hb dX5_least_46 rfl (lv_at hl 3 rfl) ?_
            refine lv_iadd hx hb dX5_least_47 ?_
            refine lv_topi (fun x_9 ex_9 => ?_)
            have qx_9 : x_9.toInt = 100 + d.toInt := by rw [ex_9]; exact zf_add (by decide) rfl (by omega) (by omega)
            refine lv_istore (lv' := [(5, .int x_9), (4, .int 0), (0, .ref w0), (1, .int 4), (2, .int d), (3, .int sec)]) hx hb dX5_least_48 hl (by decide) rfl (fun ls hl => ?_)
            refine lv_iload hx hb dX5_least_50 (lv_at hl 1 rfl) ?_
            refine lv_if_eq (tgt := 74) hx hb dX5_least_52 (by decide) (fun c_10 => ?_) (fun c_10 => ?_)
            · refine lv_aload_n hx hb dX5_least_74 rfl (lv_at hl 2 rfl) ?_
              refine lv_iload_n hx hb dX5_least_75 rfl (lv_at hl 3 rfl) ?_
              refine lv_iload_n hx hb dX5_least_76 rfl (lv_at hl 5 rfl) ?_
              refine zc_V (As := [.int 4, .int sec]) (rest := []) ⟨hx, hb, hml, hown, hts⟩ (c_W_leastAtOnce_4 l D cI cJ cZ cP cS po w0 wk wl wc wp (wn) (wh) (wg) fc (sec) hy0 hy1 hy2 hy3 hy4 hy5 hp_fc) (cwV 2 hts gX5_least_X5_leastAtOnce rfl rfl rfl ⟨rfl, dh_X5_leastAtOnce⟩ ⟨Nat.le_of_ble_eq_true rfl, Nat.le_of_ble_eq_true rfl⟩) hK hN (hZ.kept hS) hP (hP.sub [0, 2] rfl) (va_recv (q := (RX5, TX5, 7)) hK hP (ci := 5) (q0 := 0) rfl rfl) rfl hl.1 rfl (Nat.le_of_ble_eq_true rfl) dX5_least_77 ⟨Nat.le_of_ble_eq_true rfl, Nat.le_of_ble_eq_true rfl⟩ (fun r_11 hr_11 => ?_)
              refine lv_istore (lv' := [(6, .int r_11), (5, .int x_9), (4, .int 0), (0, .ref w0), (1, .int 4), (2, .int d), (3, .int sec)]) hx hb dX5_least_80 hl (by decide) rfl (fun ls hl => ?_)
              refine lv_iconst (v := 0) hx hb dX5_least_82 (by decide) ?_
              refine lv_istore (lv' := [(7, .int 0), (6, .int r_11), (5, .int x_9), (4, .int 0), (0, .ref w0), (1, .int 4), (2, .int d), (3, .int sec)]) hx hb dX5_least_83 hl (by decide) rfl (fun ls hl => ?_)
              obtain ⟨i_85, hi_85⟩ : ∃ i : Int32, i = 0 := ⟨_, rfl⟩
              replace hl : lv_has ls 9 [(7, .int i_85), (6, .int r_11), (5, .int x_9), (4, .int 0), (0, .ref w0), (1, .int 4), (2, .int d), (3, .int sec)] := by rw [hi_85]; exact lv_sub hl [0, 1, 2, 3, 4, 5, 6, 7] rfl
              have h1i_85 : i_85.toInt = 0 := by rw [hi_85]; decide
              obtain ⟨nfu, hni_85⟩ : ∃ nq9 : Nat, wn.toInt ≤ i_85.toInt + (nq9 : Int) := ⟨((wn.toInt : Int) - 0).toNat, by omega⟩
              have hloi_85 : 0 ≤ i_85.toInt := by omega
              obtain ⟨g_12, hg_12⟩ : ∃ g : Nat → Int32, g = fl := ⟨_, rfl⟩
              replace hP : va_P D vwCl [(w0, .inr (5, [.ref wk, .ref wl, .ref wc, .ref wp, .int wn, .int wh, .int wg])), (wl, .inl (cI, 125, .inl g_12)), (wc, .inl (cI, 3, .inl fc)), (wp, .inl (cP, 8, .inr (.inr (.inr (.inr fp)))))] H := by rw [hg_12]; exact hP
              replace hD : va_D (va_A [(w0, .inr (5, [.ref wk, .ref wl, .ref wc, .ref wp, .int wn, .int wh, .int wg])), (wl, .inl (cI, 125, .inl fl)), (wc, .inl (cI, 3, .inl fc)), (wp, .inl (cP, 8, .inr (.inr (.inr (.inr fp)))))] s.heap.size) [(w0, .inr (5, [.ref wk, .ref wl, .ref wc, .ref wp, .int wn, .int wh, .int wg])), (wl, .inl (cI, 125, .inl g_12)), (wc, .inl (cI, 3, .inl fc)), (wp, .inl (cP, 8, .inr (.inr (.inr (.inr fp)))))] := by rw [hg_12]; exact hD
              obtain ⟨v_13, hv_13⟩ : ∃ g : Int32, g = r_11 := ⟨_, rfl⟩
              replace hl : lv_has ls 9 [(7, .int i_85), (6, .int v_13), (5, .int x_9), (4, .int 0), (0, .ref w0), (1, .int 4), (2, .int d), (3, .int sec)] := by rw [hv_13]; exact hl
              clear h1i_85 hi_85 hg_12 hv_13
              skip
              revert hni_85
              revert hloi_85
              revert hl
              revert hS
              revert hD
              revert hP
              revert ls
              revert locs
              revert H
              revert g_12
              revert v_13
              revert i_85
              induction nfu with
              | zero =>
                intro i_85 v_13 g_12 H locs ls hP hD hS hl hloi_85 hni_85
                have hzi_85 : wn.toInt ≤ i_85.toInt := by omega
                refine lv_iload hx hb dX5_least_85 (lv_at hl 0 rfl) ?_
                refine lv_aload_n hx hb dX5_least_87 rfl (lv_at hl 4 rfl) ?_
                refine va_get (D := D) (ci := 5) (v := .int wn) (C := RX5) (T := TX5) (N := 7) hx hb hts hi_X5_least_5 hown hK hP 0 rfl rfl 4 (by decide) (hts (.fieldLink RX5 27 "TheLiningsInIt$Ways" "count" "I") (List.mem_of_getElem? (i := 3) rfl)) (fun _ h9 => h9) rfl dX5_least_88 ?_
                refine lv_icmp_ge (tgt := 135) hx hb dX5_least_91 (by decide) (fun c_14 => ?_) (fun c_14 => ?_)
                · have fc_14 : wn.toInt ≤ i_85.toInt := zf_le c_14 rfl rfl
                  refine lv_iload hx hb dX5_least_135 (lv_at hl 3 rfl) ?_
                  refine lv_if_eq (tgt := 149) hx hb dX5_least_137 (by decide) (fun c_15 => ?_) (fun c_15 => ?_)
                  · refine lv_iload hx hb dX5_least_149 (lv_at hl 1 rfl) ?_
                    exact W.iret (v := v_13) hx hb hr (fun t ht hW => ⟨⟨v_13, g_12, rfl, trivial, zRet ht hP hD [0, 1, 2, 3] (by decide) rfl⟩, hS.F ht⟩) hS.2.2 dX5_least_151
                  · exact absurd c_15 (by decide)
                · exfalso; have fc_14 : i_85.toInt < wn.toInt := zf_nle c_14 rfl rfl; omega
              | succ nfu ih =>
                intro i_85 v_13 g_12 H locs ls hP hD hS hl hloi_85 hni_85
                refine lv_iload hx hb dX5_least_85 (lv_at hl 0 rfl) ?_
                refine lv_aload_n hx hb dX5_least_87 rfl (lv_at hl 4 rfl) ?_
                refine va_get (D := D) (ci := 5) (v := .int wn) (C := RX5) (T := TX5) (N := 7) hx hb hts hi_X5_least_5 hown hK hP 0 rfl rfl 4 (by decide) (hts (.fieldLink RX5 27 "TheLiningsInIt$Ways" "count" "I") (List.mem_of_getElem? (i := 3) rfl)) (fun _ h9 => h9) rfl dX5_least_88 ?_
                refine lv_icmp_ge (tgt := 135) hx hb dX5_least_91 (by decide) (fun c_16 => ?_) (fun c_16 => ?_)
                · have fc_16 : wn.toInt ≤ i_85.toInt := zf_le c_16 rfl rfl
                  refine lv_iload hx hb dX5_least_135 (lv_at hl 3 rfl) ?_
                  refine lv_if_eq (tgt := 149) hx hb dX5_least_137 (by decide) (fun c_17 => ?_) (fun c_17 => ?_)
                  · refine lv_iload hx hb dX5_least_149 (lv_at hl 1 rfl) ?_
                    exact W.iret (v := v_13) hx hb hr (fun t ht hW => ⟨⟨v_13, g_12, rfl, trivial, zRet ht hP hD [0, 1, 2, 3] (by decide) rfl⟩, hS.F ht⟩) hS.2.2 dX5_least_151
                  · exact absurd c_17 (by decide)
                · have fc_16 : i_85.toInt < wn.toInt := zf_nle c_16 rfl rfl
                  refine lv_iload_n hx hb dX5_least_94 rfl (lv_at hl 5 rfl) ?_
                  refine lv_if_le (tgt := 135) hx hb dX5_least_95 (by decide) (fun c_18 => ?_) (fun c_18 => ?_)
                  · exact absurd c_18 (by decide)
                  · refine lv_aload_n hx hb dX5_least_98 rfl (lv_at hl 4 rfl) ?_
                    refine lv_iload hx hb dX5_least_99 (lv_at hl 0 rfl) ?_
                    refine lv_iload_n hx hb dX5_least_101 rfl (lv_at hl 6 rfl) ?_
                    refine lv_iload_n hx hb dX5_least_102 rfl (lv_at hl 7 rfl) ?_
                    refine zc_Vq (As := [.int i_85, .int d, .int sec]) (rest := []) ⟨hx, hb, hml, hown, hts⟩ (c_W_mayBeAt l D cI cJ cZ cP cS po w0 wk wl wc wp (wn) (wh) (wg) fp (i_85) (d) (sec) hy0 hy1 hy2 hy3 hy4 hy5 hwp) (cwV 3 hts gX5_least_X5_mayBeAt rfl rfl rfl ⟨rfl, dh_X5_mayBeAt⟩ ⟨Nat.le_of_ble_eq_true rfl, Nat.le_of_ble_eq_true rfl⟩) hK hN (hZ.kept hS) hP (hP.sub [0, 3] rfl) (va_recv (q := (RX5, TX5, 7)) hK hP (ci := 5) (q0 := 0) rfl rfl) rfl hl.1 rfl (Nat.le_of_ble_eq_true rfl) dX5_least_103 ⟨Nat.le_of_ble_eq_true rfl, Nat.le_of_ble_eq_true rfl⟩ (fun r_19 hr_19 => ?_)
                    rcases hr_19 with ⟨rfl, g_20⟩ | ⟨rfl, g_21, g_22⟩ | ⟨rfl, g_23, g_24⟩ | ⟨rfl, g_25, g_26, g_27⟩ | ⟨rfl, g_28, g_29, g_30⟩ | ⟨⟨u_34, kiu_34, au_34, tu_34, rfl, huu_34⟩, g_31, g_32, g_33⟩
                    · exfalso; omega
                    · exfalso; omega
                    · refine lv_astoreN (lv' := [(8, .null), (7, .int i_85), (6, .int v_13), (5, .int x_9), (4, .int 0), (0, .ref w0), (1, .int 4), (2, .int d), (3, .int sec)]) hx hb dX5_least_106 hl (by decide) rfl (fun ls hl => ?_)
                      refine lv_aloadN hx hb dX5_least_108 (lv_at hl 0 rfl) ?_
                      refine lv_ifnullN (tgt := 129) hx hb dX5_least_110 (by decide) ?_
                      obtain ⟨x_35, ex_35⟩ : ∃ y : Int32, y = i_85 + 1 := ⟨_, rfl⟩
                      have qx_35 : x_35.toInt = i_85.toInt + 1 := dw_inc ex_35 fc_16
                      refine lv_iinc (v := x_35) (lv' := [(7, .int x_35), (8, .null), (6, .int v_13), (5, .int x_9), (4, .int 0), (0, .ref w0), (1, .int 4), (2, .int d), (3, .int sec)]) hx hb dX5_least_129 hl (k := 1) rfl ex_35.symm (by decide) rfl (fun ls hl => ?_)
                      refine lv_goto (tgt := 85) hx hb dX5_least_132 (by decide) ?_
                      exact ih x_35 v_13 (g_12) _ _ _ (hP.sub [0, 1, 2, 3] rfl) (hD.sub [0, 1, 2, 3] (by decide) rfl) hS (lv_sub hl [0, 2, 3, 4, 5, 6, 7, 8] rfl) (dw_lo hloi_85 qx_35) (dw_hn hni_85 qx_35)
                    · exfalso; omega
                    · refine lv_astoreN (lv' := [(8, .null), (7, .int i_85), (6, .int v_13), (5, .int x_9), (4, .int 0), (0, .ref w0), (1, .int 4), (2, .int d), (3, .int sec)]) hx hb dX5_least_106 hl (by decide) rfl (fun ls hl => ?_)
                      refine lv_aloadN hx hb dX5_least_108 (lv_at hl 0 rfl) ?_
                      refine lv_ifnullN (tgt := 129) hx hb dX5_least_110 (by decide) ?_
                      obtain ⟨x_36, ex_36⟩ : ∃ y : Int32, y = i_85 + 1 := ⟨_, rfl⟩
                      have qx_36 : x_36.toInt = i_85.toInt + 1 := dw_inc ex_36 fc_16
                      refine lv_iinc (v := x_36) (lv' := [(7, .int x_36), (8, .null), (6, .int v_13), (5, .int x_9), (4, .int 0), (0, .ref w0), (1, .int 4), (2, .int d), (3, .int sec)]) hx hb dX5_least_129 hl (k := 1) rfl ex_36.symm (by decide) rfl (fun ls hl => ?_)
                      refine lv_goto (tgt := 85) hx hb dX5_least_132 (by decide) ?_
                      exact ih x_36 v_13 (g_12) _ _ _ (hP.sub [0, 1, 2, 3] rfl) (hD.sub [0, 1, 2, 3] (by decide) rfl) hS (lv_sub hl [0, 2, 3, 4, 5, 6, 7, 8] rfl) (dw_lo hloi_85 qx_36) (dw_hn hni_85 qx_36)
                    · refine W.eq (g2 := F0 m 106 ls (.ref u_34 :: [])) rfl ?_
                      obtain ⟨hku_34, hau_34, htu_34⟩ := zPu_pr (hZ.kept hS) huu_34
                      refine lv_astore (lv' := [(8, .ref u_34), (7, .int i_85), (6, .int v_13), (5, .int x_9), (4, .int 0), (0, .ref w0), (1, .int 4), (2, .int d), (3, .int sec)]) hx hb dX5_least_106 hl (by decide) rfl (fun ls hl => ?_)
                      refine lv_aload hx hb dX5_least_108 (lv_at hl 0 rfl) ?_
                      refine lv_ifnull hx hb dX5_least_110 ?_
                      refine lv_iload hx hb dX5_least_113 (lv_at hl 2 rfl) ?_
                      refine lv_aload_n hx hb dX5_least_115 rfl (lv_at hl 5 rfl) ?_
                      refine lv_aload hx hb dX5_least_116 (lv_at hl 0 rfl) ?_
                      refine lv_iload_n hx hb dX5_least_118 rfl (lv_at hl 6 rfl) ?_
                      refine lv_iload_n hx hb dX5_least_119 rfl (lv_at hl 7 rfl) ?_
                      refine lv_iload_n hx hb dX5_least_120 rfl (lv_at hl 8 rfl) ?_
                      skip
                      refine zw_V (As := [.ref u_34, .int 4, .int d, .int sec]) (rest := [.int v_13]) (wr := []) ⟨hx, hb, hml, hown, hts⟩ (c_W_leastBy_4 l D cI cJ cZ cP cS po w0 wk wl wc wp (wn) (wh) (wg) fp g_12 fc (d) (sec) u_34 (kiu_34) (au_34) (tu_34) huu_34 ⟨by omega, by omega, by omega, by omega⟩ hy0 hy1 hy2 hy3 hy4 hy5 hwp hy7 hy8 hp_fc H.size) (cwV 4 hts gX5_least_X5_leastBy rfl rfl rfl ⟨rfl, dh_X5_leastBy⟩ ⟨Nat.le_of_ble_eq_true rfl, Nat.le_of_ble_eq_true rfl⟩) hK hN (hZ.kept hS) hP hD hS hA [0, 1, 2, 3] [] rfl rfl (by decide) (by decide) (by decide) (va_recv (q := (RX5, TX5, 7)) hK hP (ci := 5) (q0 := 0) rfl rfl) rfl hl.1 rfl (Nat.le_of_ble_eq_true rfl) dX5_least_121 ⟨Nat.le_of_ble_eq_true rfl, Nat.le_of_ble_eq_true rfl⟩ (fun r_37 u_38 H locs hr_37 hP hD hS => ?_)
                      obtain ⟨q_39, rfl⟩ : ∃ z, z = u_38 := ⟨_, rfl⟩
                      have h9R := zRe (ws' := [(w0, .inr (5, [.ref wk, .ref wl, .ref wc, .ref wp, .int wn, .int wh, .int wg])), (wl, .inl (cI, 125, .inl q_39)), (wc, .inl (cI, 3, .inl fc)), (wp, .inl (cP, 8, .inr (.inr (.inr (.inr fp)))))]) hP hD rfl
                      clear hP hD
                      obtain ⟨hP, hD⟩ := h9R
                      refine va_mmin hx hb (hml.trans hl.1.symm) hown (hts (.methodLink RX5 110 Lib.Math.min.name) (List.mem_of_getElem? (i := 4) rfl)) (hts _ (List.mem_of_getElem? (i := 5) rfl)) (hts _ (List.mem_of_getElem? (i := 6) rfl)) (hts _ (List.mem_of_getElem? (i := 7) rfl)) (Nat.le_of_ble_eq_true rfl) (Nat.le_of_ble_eq_true rfl) (Nat.le_of_ble_eq_true rfl) (Nat.le_of_ble_eq_true rfl) dX5_least_124 ?_
                      refine lv_topi (fun x_40 ex_40 => ?_)
                      have qx_40 := zf_min ex_40 (x1 := v_13.toInt) (y1 := r_37.toInt) rfl rfl
                      refine lv_istore (lv' := [(6, .int x_40), (8, .ref u_34), (7, .int i_85), (5, .int x_9), (4, .int 0), (0, .ref w0), (1, .int 4), (2, .int d), (3, .int sec)]) hx hb dX5_least_127 hl (by decide) rfl (fun ls hl => ?_)
                      obtain ⟨x_41, ex_41⟩ : ∃ y : Int32, y = i_85 + 1 := ⟨_, rfl⟩
                      have qx_41 : x_41.toInt = i_85.toInt + 1 := dw_inc ex_41 fc_16
                      refine lv_iinc (v := x_41) (lv' := [(7, .int x_41), (6, .int x_40), (8, .ref u_34), (5, .int x_9), (4, .int 0), (0, .ref w0), (1, .int 4), (2, .int d), (3, .int sec)]) hx hb dX5_least_129 hl (k := 2) rfl ex_41.symm (by decide) rfl (fun ls hl => ?_)
                      refine lv_goto (tgt := 85) hx hb dX5_least_132 (by decide) ?_
                      exact ih x_41 x_40 (q_39) _ _ _ (hP.sub [0, 1, 2, 3] rfl) (hD.sub [0, 1, 2, 3] (by decide) rfl) hS (lv_sub hl [0, 1, 3, 4, 5, 6, 7, 8] rfl) (dw_lo hloi_85 qx_41) (dw_hn hni_85 qx_41)
            · exact absurd c_10 (by decide)
          · have fc_7 : x_6.toInt ≤ sec.toInt := zf_nlt c_7 rfl rfl
            refine lv_iconst (v := 1) hx hb dX5_least_35 (by decide) ?_
            refine lv_goto (tgt := 40) hx hb dX5_least_36 (by decide) ?_
            refine lv_istore (lv' := [(4, .int 1), (0, .ref w0), (1, .int 4), (2, .int d), (3, .int sec)]) hx hb dX5_least_40 hl (by decide) rfl (fun ls hl => ?_)
            refine lv_iload_n hx hb dX5_least_42 rfl (lv_at hl 2 rfl) ?_
            refine lv_bipush (v := 25) hx hb dX5_least_43 (by decide) ?_
            refine lv_imul hx hb dX5_least_45 ?_
            refine lv_topi (fun y_42 ey_42 => ?_)
            obtain rfl : y_42 = 100 := ey_42.trans (by decide)
            refine lv_iload_n hx hb dX5_least_46 rfl (lv_at hl 3 rfl) ?_
            refine lv_iadd hx hb dX5_least_47 ?_
            refine lv_topi (fun x_43 ex_43 => ?_)
            have qx_43 : x_43.toInt = 100 + d.toInt := by rw [ex_43]; exact zf_add (by decide) rfl (by omega) (by omega)
            refine lv_istore (lv' := [(5, .int x_43), (4, .int 1), (0, .ref w0), (1, .int 4), (2, .int d), (3, .int sec)]) hx hb dX5_least_48 hl (by decide) rfl (fun ls hl => ?_)
            refine lv_iload hx hb dX5_least_50 (lv_at hl 1 rfl) ?_
            refine lv_if_eq (tgt := 74) hx hb dX5_least_52 (by decide) (fun c_44 => ?_) (fun c_44 => ?_)
            · exact absurd c_44 (by decide)
            · refine lv_aload_n hx hb dX5_least_55 rfl (lv_at hl 2 rfl) ?_
              refine va_get (D := D) (ci := 5) (v := .ref wl) (C := RX5) (T := TX5) (N := 7) hx hb hts hi_X5_least_5 hown hK hP 0 rfl rfl 1 (by decide) (hts (.fieldLink RX5 15 "TheLiningsInIt$Ways" "knownLeast" "[I") (List.mem_of_getElem? (i := 2) rfl)) (fun _ h9 => h9) rfl dX5_least_56 ?_
              refine lv_iload hx hb dX5_least_59 (lv_at hl 0 rfl) ?_
              refine va_iald hx hb hK hP 1 0 rfl rfl (zf_in (by omega) (by omega)) dX5_least_61 ?_
              refine lv_topi (fun x_45 ex_45 => ?_)
              refine lv_iconst (v := (-1)) hx hb dX5_least_62 (by decide) ?_
              refine lv_icmp_eq (tgt := 74) hx hb dX5_least_63 (by decide) (fun c_46 => ?_) (fun c_46 => ?_)
              · have fc_46 : x_45.toInt = (-1) := zf_eq c_46 rfl (by decide)
                refine lv_aload_n hx hb dX5_least_74 rfl (lv_at hl 2 rfl) ?_
                refine lv_iload_n hx hb dX5_least_75 rfl (lv_at hl 3 rfl) ?_
                refine lv_iload_n hx hb dX5_least_76 rfl (lv_at hl 5 rfl) ?_
                refine zc_V (As := [.int 4, .int sec]) (rest := []) ⟨hx, hb, hml, hown, hts⟩ (c_W_leastAtOnce_4 l D cI cJ cZ cP cS po w0 wk wl wc wp (wn) (wh) (wg) fc (sec) hy0 hy1 hy2 hy3 hy4 hy5 hp_fc) (cwV 2 hts gX5_least_X5_leastAtOnce rfl rfl rfl ⟨rfl, dh_X5_leastAtOnce⟩ ⟨Nat.le_of_ble_eq_true rfl, Nat.le_of_ble_eq_true rfl⟩) hK hN (hZ.kept hS) hP (hP.sub [0, 2] rfl) (va_recv (q := (RX5, TX5, 7)) hK hP (ci := 5) (q0 := 0) rfl rfl) rfl hl.1 rfl (Nat.le_of_ble_eq_true rfl) dX5_least_77 ⟨Nat.le_of_ble_eq_true rfl, Nat.le_of_ble_eq_true rfl⟩ (fun r_47 hr_47 => ?_)
                refine lv_istore (lv' := [(6, .int r_47), (5, .int x_43), (4, .int 1), (0, .ref w0), (1, .int 4), (2, .int d), (3, .int sec)]) hx hb dX5_least_80 hl (by decide) rfl (fun ls hl => ?_)
                refine lv_iconst (v := 0) hx hb dX5_least_82 (by decide) ?_
                refine lv_istore (lv' := [(7, .int 0), (6, .int r_47), (5, .int x_43), (4, .int 1), (0, .ref w0), (1, .int 4), (2, .int d), (3, .int sec)]) hx hb dX5_least_83 hl (by decide) rfl (fun ls hl => ?_)
                obtain ⟨i_85, hi_85⟩ : ∃ i : Int32, i = 0 := ⟨_, rfl⟩
                replace hl : lv_has ls 9 [(7, .int i_85), (6, .int r_47), (5, .int x_43), (4, .int 1), (0, .ref w0), (1, .int 4), (2, .int d), (3, .int sec)] := by rw [hi_85]; exact lv_sub hl [0, 1, 2, 3, 4, 5, 6, 7] rfl
                have h1i_85 : i_85.toInt = 0 := by rw [hi_85]; decide
                obtain ⟨nfu, hni_85⟩ : ∃ nq9 : Nat, wn.toInt ≤ i_85.toInt + (nq9 : Int) := ⟨((wn.toInt : Int) - 0).toNat, by omega⟩
                have hloi_85 : 0 ≤ i_85.toInt := by omega
                obtain ⟨g_48, hg_48⟩ : ∃ g : Nat → Int32, g = fl := ⟨_, rfl⟩
                replace hP : va_P D vwCl [(w0, .inr (5, [.ref wk, .ref wl, .ref wc, .ref wp, .int wn, .int wh, .int wg])), (wl, .inl (cI, 125, .inl g_48)), (wc, .inl (cI, 3, .inl fc)), (wp, .inl (cP, 8, .inr (.inr (.inr (.inr fp)))))] H := by rw [hg_48]; exact hP
                replace hD : va_D (va_A [(w0, .inr (5, [.ref wk, .ref wl, .ref wc, .ref wp, .int wn, .int wh, .int wg])), (wl, .inl (cI, 125, .inl fl)), (wc, .inl (cI, 3, .inl fc)), (wp, .inl (cP, 8, .inr (.inr (.inr (.inr fp)))))] s.heap.size) [(w0, .inr (5, [.ref wk, .ref wl, .ref wc, .ref wp, .int wn, .int wh, .int wg])), (wl, .inl (cI, 125, .inl g_48)), (wc, .inl (cI, 3, .inl fc)), (wp, .inl (cP, 8, .inr (.inr (.inr (.inr fp)))))] := by rw [hg_48]; exact hD
                obtain ⟨v_49, hv_49⟩ : ∃ g : Int32, g = r_47 := ⟨_, rfl⟩
                replace hl : lv_has ls 9 [(7, .int i_85), (6, .int v_49), (5, .int x_43), (4, .int 1), (0, .ref w0), (1, .int 4), (2, .int d), (3, .int sec)] := by rw [hv_49]; exact hl
                clear h1i_85 hi_85 hg_48 hv_49
                skip
                revert hni_85
                revert hloi_85
                revert hl
                revert hS
                revert hD
                revert hP
                revert ls
                revert locs
                revert H
                revert g_48
                revert v_49
                revert i_85
                induction nfu with
                | zero =>
                  intro i_85 v_49 g_48 H locs ls hP hD hS hl hloi_85 hni_85
                  have hzi_85 : wn.toInt ≤ i_85.toInt := by omega
                  refine lv_iload hx hb dX5_least_85 (lv_at hl 0 rfl) ?_
                  refine lv_aload_n hx hb dX5_least_87 rfl (lv_at hl 4 rfl) ?_
                  refine va_get (D := D) (ci := 5) (v := .int wn) (C := RX5) (T := TX5) (N := 7) hx hb hts hi_X5_least_5 hown hK hP 0 rfl rfl 4 (by decide) (hts (.fieldLink RX5 27 "TheLiningsInIt$Ways" "count" "I") (List.mem_of_getElem? (i := 3) rfl)) (fun _ h9 => h9) rfl dX5_least_88 ?_
                  refine lv_icmp_ge (tgt := 135) hx hb dX5_least_91 (by decide) (fun c_50 => ?_) (fun c_50 => ?_)
                  · have fc_50 : wn.toInt ≤ i_85.toInt := zf_le c_50 rfl rfl
                    refine lv_iload hx hb dX5_least_135 (lv_at hl 3 rfl) ?_
                    refine lv_if_eq (tgt := 149) hx hb dX5_least_137 (by decide) (fun c_51 => ?_) (fun c_51 => ?_)
                    · exact absurd c_51 (by decide)
                    · refine lv_aload_n hx hb dX5_least_140 rfl (lv_at hl 4 rfl) ?_
                      refine va_get (D := D) (ci := 5) (v := .ref wl) (C := RX5) (T := TX5) (N := 7) hx hb hts hi_X5_least_5 hown hK hP 0 rfl rfl 1 (by decide) (hts (.fieldLink RX5 15 "TheLiningsInIt$Ways" "knownLeast" "[I") (List.mem_of_getElem? (i := 2) rfl)) (fun _ h9 => h9) rfl dX5_least_141 ?_
                      refine lv_iload hx hb dX5_least_144 (lv_at hl 2 rfl) ?_
                      refine lv_iload hx hb dX5_least_146 (lv_at hl 1 rfl) ?_
                      refine va_iast hx hb hK hP hD hS 1 0 rfl rfl (zf_in (by omega) (by omega)) dX5_least_148 (fun H locs hP hD hS => ?_)
                      obtain ⟨g_52, hg_52⟩ : ∃ g : Nat → Int32, g = upd g_48 x_43.toNatClampNeg v_49 := ⟨_, rfl⟩
                      rw [← hg_52] at hP hD
                      clear hg_52
                      have h9R := zRe (ws' := [(w0, .inr (5, [.ref wk, .ref wl, .ref wc, .ref wp, .int wn, .int wh, .int wg])), (wl, .inl (cI, 125, .inl g_52)), (wc, .inl (cI, 3, .inl fc)), (wp, .inl (cP, 8, .inr (.inr (.inr (.inr fp)))))]) hP hD rfl
                      clear hP hD
                      obtain ⟨hP, hD⟩ := h9R
                      refine lv_iload hx hb dX5_least_149 (lv_at hl 1 rfl) ?_
                      exact W.iret (v := v_49) hx hb hr (fun t ht hW => ⟨⟨v_49, g_52, rfl, trivial, zRet ht hP hD [0, 1, 2, 3] (by decide) rfl⟩, hS.F ht⟩) hS.2.2 dX5_least_151
                  · exfalso; have fc_50 : i_85.toInt < wn.toInt := zf_nle c_50 rfl rfl; omega
                | succ nfu ih =>
                  intro i_85 v_49 g_48 H locs ls hP hD hS hl hloi_85 hni_85
                  refine lv_iload hx hb dX5_least_85 (lv_at hl 0 rfl) ?_
                  refine lv_aload_n hx hb dX5_least_87 rfl (lv_at hl 4 rfl) ?_
                  refine va_get (D := D) (ci := 5) (v := .int wn) (C := RX5) (T := TX5) (N := 7) hx hb hts hi_X5_least_5 hown hK hP 0 rfl rfl 4 (by decide) (hts (.fieldLink RX5 27 "TheLiningsInIt$Ways" "count" "I") (List.mem_of_getElem? (i := 3) rfl)) (fun _ h9 => h9) rfl dX5_least_88 ?_
                  refine lv_icmp_ge (tgt := 135) hx hb dX5_least_91 (by decide) (fun c_53 => ?_) (fun c_53 => ?_)
                  · have fc_53 : wn.toInt ≤ i_85.toInt := zf_le c_53 rfl rfl
                    refine lv_iload hx hb dX5_least_135 (lv_at hl 3 rfl) ?_
                    refine lv_if_eq (tgt := 149) hx hb dX5_least_137 (by decide) (fun c_54 => ?_) (fun c_54 => ?_)
                    · exact absurd c_54 (by decide)
                    · refine lv_aload_n hx hb dX5_least_140 rfl (lv_at hl 4 rfl) ?_
                      refine va_get (D := D) (ci := 5) (v := .ref wl) (C := RX5) (T := TX5) (N := 7) hx hb hts hi_X5_least_5 hown hK hP 0 rfl rfl 1 (by decide) (hts (.fieldLink RX5 15 "TheLiningsInIt$Ways" "knownLeast" "[I") (List.mem_of_getElem? (i := 2) rfl)) (fun _ h9 => h9) rfl dX5_least_141 ?_
                      refine lv_iload hx hb dX5_least_144 (lv_at hl 2 rfl) ?_
                      refine lv_iload hx hb dX5_least_146 (lv_at hl 1 rfl) ?_
                      refine va_iast hx hb hK hP hD hS 1 0 rfl rfl (zf_in (by omega) (by omega)) dX5_least_148 (fun H locs hP hD hS => ?_)
                      obtain ⟨g_55, hg_55⟩ : ∃ g : Nat → Int32, g = upd g_48 x_43.toNatClampNeg v_49 := ⟨_, rfl⟩
                      rw [← hg_55] at hP hD
                      clear hg_55
                      have h9R := zRe (ws' := [(w0, .inr (5, [.ref wk, .ref wl, .ref wc, .ref wp, .int wn, .int wh, .int wg])), (wl, .inl (cI, 125, .inl g_55)), (wc, .inl (cI, 3, .inl fc)), (wp, .inl (cP, 8, .inr (.inr (.inr (.inr fp)))))]) hP hD rfl
                      clear hP hD
                      obtain ⟨hP, hD⟩ := h9R
                      refine lv_iload hx hb dX5_least_149 (lv_at hl 1 rfl) ?_
                      exact W.iret (v := v_49) hx hb hr (fun t ht hW => ⟨⟨v_49, g_55, rfl, trivial, zRet ht hP hD [0, 1, 2, 3] (by decide) rfl⟩, hS.F ht⟩) hS.2.2 dX5_least_151
                  · have fc_53 : i_85.toInt < wn.toInt := zf_nle c_53 rfl rfl
                    refine lv_iload_n hx hb dX5_least_94 rfl (lv_at hl 5 rfl) ?_
                    refine lv_if_le (tgt := 135) hx hb dX5_least_95 (by decide) (fun c_56 => ?_) (fun c_56 => ?_)
                    · exact absurd c_56 (by decide)
                    · refine lv_aload_n hx hb dX5_least_98 rfl (lv_at hl 4 rfl) ?_
                      refine lv_iload hx hb dX5_least_99 (lv_at hl 0 rfl) ?_
                      refine lv_iload_n hx hb dX5_least_101 rfl (lv_at hl 6 rfl) ?_
                      refine lv_iload_n hx hb dX5_least_102 rfl (lv_at hl 7 rfl) ?_
                      refine zc_Vq (As := [.int i_85, .int d, .int sec]) (rest := []) ⟨hx, hb, hml, hown, hts⟩ (c_W_mayBeAt l D cI cJ cZ cP cS po w0 wk wl wc wp (wn) (wh) (wg) fp (i_85) (d) (sec) hy0 hy1 hy2 hy3 hy4 hy5 hwp) (cwV 3 hts gX5_least_X5_mayBeAt rfl rfl rfl ⟨rfl, dh_X5_mayBeAt⟩ ⟨Nat.le_of_ble_eq_true rfl, Nat.le_of_ble_eq_true rfl⟩) hK hN (hZ.kept hS) hP (hP.sub [0, 3] rfl) (va_recv (q := (RX5, TX5, 7)) hK hP (ci := 5) (q0 := 0) rfl rfl) rfl hl.1 rfl (Nat.le_of_ble_eq_true rfl) dX5_least_103 ⟨Nat.le_of_ble_eq_true rfl, Nat.le_of_ble_eq_true rfl⟩ (fun r_57 hr_57 => ?_)
                      rcases hr_57 with ⟨rfl, g_58⟩ | ⟨rfl, g_59, g_60⟩ | ⟨rfl, g_61, g_62⟩ | ⟨rfl, g_63, g_64, g_65⟩ | ⟨rfl, g_66, g_67, g_68⟩ | ⟨⟨u_72, kiu_72, au_72, tu_72, rfl, huu_72⟩, g_69, g_70, g_71⟩
                      · exfalso; omega
                      · exfalso; omega
                      · refine lv_astoreN (lv' := [(8, .null), (7, .int i_85), (6, .int v_49), (5, .int x_43), (4, .int 1), (0, .ref w0), (1, .int 4), (2, .int d), (3, .int sec)]) hx hb dX5_least_106 hl (by decide) rfl (fun ls hl => ?_)
                        refine lv_aloadN hx hb dX5_least_108 (lv_at hl 0 rfl) ?_
                        refine lv_ifnullN (tgt := 129) hx hb dX5_least_110 (by decide) ?_
                        obtain ⟨x_73, ex_73⟩ : ∃ y : Int32, y = i_85 + 1 := ⟨_, rfl⟩
                        have qx_73 : x_73.toInt = i_85.toInt + 1 := dw_inc ex_73 fc_53
                        refine lv_iinc (v := x_73) (lv' := [(7, .int x_73), (8, .null), (6, .int v_49), (5, .int x_43), (4, .int 1), (0, .ref w0), (1, .int 4), (2, .int d), (3, .int sec)]) hx hb dX5_least_129 hl (k := 1) rfl ex_73.symm (by decide) rfl (fun ls hl => ?_)
                        refine lv_goto (tgt := 85) hx hb dX5_least_132 (by decide) ?_
                        exact ih x_73 v_49 (g_48) _ _ _ (hP.sub [0, 1, 2, 3] rfl) (hD.sub [0, 1, 2, 3] (by decide) rfl) hS (lv_sub hl [0, 2, 3, 4, 5, 6, 7, 8] rfl) (dw_lo hloi_85 qx_73) (dw_hn hni_85 qx_73)
                      · exfalso; omega
                      · refine lv_astoreN (lv' := [(8, .null), (7, .int i_85), (6, .int v_49), (5, .int x_43), (4, .int 1), (0, .ref w0), (1, .int 4), (2, .int d), (3, .int sec)]) hx hb dX5_least_106 hl (by decide) rfl (fun ls hl => ?_)
                        refine lv_aloadN hx hb dX5_least_108 (lv_at hl 0 rfl) ?_
                        refine lv_ifnullN (tgt := 129) hx hb dX5_least_110 (by decide) ?_
                        obtain ⟨x_74, ex_74⟩ : ∃ y : Int32, y = i_85 + 1 := ⟨_, rfl⟩
                        have qx_74 : x_74.toInt = i_85.toInt + 1 := dw_inc ex_74 fc_53
                        refine lv_iinc (v := x_74) (lv' := [(7, .int x_74), (8, .null), (6, .int v_49), (5, .int x_43), (4, .int 1), (0, .ref w0), (1, .int 4), (2, .int d), (3, .int sec)]) hx hb dX5_least_129 hl (k := 1) rfl ex_74.symm (by decide) rfl (fun ls hl => ?_)
                        refine lv_goto (tgt := 85) hx hb dX5_least_132 (by decide) ?_
                        exact ih x_74 v_49 (g_48) _ _ _ (hP.sub [0, 1, 2, 3] rfl) (hD.sub [0, 1, 2, 3] (by decide) rfl) hS (lv_sub hl [0, 2, 3, 4, 5, 6, 7, 8] rfl) (dw_lo hloi_85 qx_74) (dw_hn hni_85 qx_74)
                      · refine W.eq (g2 := F0 m 106 ls (.ref u_72 :: [])) rfl ?_
                        obtain ⟨hku_72, hau_72, htu_72⟩ := zPu_pr (hZ.kept hS) huu_72
                        refine lv_astore (lv' := [(8, .ref u_72), (7, .int i_85), (6, .int v_49), (5, .int x_43), (4, .int 1), (0, .ref w0), (1, .int 4), (2, .int d), (3, .int sec)]) hx hb dX5_least_106 hl (by decide) rfl (fun ls hl => ?_)
                        refine lv_aload hx hb dX5_least_108 (lv_at hl 0 rfl) ?_
                        refine lv_ifnull hx hb dX5_least_110 ?_
                        refine lv_iload hx hb dX5_least_113 (lv_at hl 2 rfl) ?_
                        refine lv_aload_n hx hb dX5_least_115 rfl (lv_at hl 5 rfl) ?_
                        refine lv_aload hx hb dX5_least_116 (lv_at hl 0 rfl) ?_
                        refine lv_iload_n hx hb dX5_least_118 rfl (lv_at hl 6 rfl) ?_
                        refine lv_iload_n hx hb dX5_least_119 rfl (lv_at hl 7 rfl) ?_
                        refine lv_iload_n hx hb dX5_least_120 rfl (lv_at hl 8 rfl) ?_
                        skip
                        refine zw_V (As := [.ref u_72, .int 4, .int d, .int sec]) (rest := [.int v_49]) (wr := []) ⟨hx, hb, hml, hown, hts⟩ (c_W_leastBy_4 l D cI cJ cZ cP cS po w0 wk wl wc wp (wn) (wh) (wg) fp g_48 fc (d) (sec) u_72 (kiu_72) (au_72) (tu_72) huu_72 ⟨by omega, by omega, by omega, by omega⟩ hy0 hy1 hy2 hy3 hy4 hy5 hwp hy7 hy8 hp_fc H.size) (cwV 4 hts gX5_least_X5_leastBy rfl rfl rfl ⟨rfl, dh_X5_leastBy⟩ ⟨Nat.le_of_ble_eq_true rfl, Nat.le_of_ble_eq_true rfl⟩) hK hN (hZ.kept hS) hP hD hS hA [0, 1, 2, 3] [] rfl rfl (by decide) (by decide) (by decide) (va_recv (q := (RX5, TX5, 7)) hK hP (ci := 5) (q0 := 0) rfl rfl) rfl hl.1 rfl (Nat.le_of_ble_eq_true rfl) dX5_least_121 ⟨Nat.le_of_ble_eq_true rfl, Nat.le_of_ble_eq_true rfl⟩ (fun r_75 u_76 H locs hr_75 hP hD hS => ?_)
                        obtain ⟨q_77, rfl⟩ : ∃ z, z = u_76 := ⟨_, rfl⟩
                        have h9R := zRe (ws' := [(w0, .inr (5, [.ref wk, .ref wl, .ref wc, .ref wp, .int wn, .int wh, .int wg])), (wl, .inl (cI, 125, .inl q_77)), (wc, .inl (cI, 3, .inl fc)), (wp, .inl (cP, 8, .inr (.inr (.inr (.inr fp)))))]) hP hD rfl
                        clear hP hD
                        obtain ⟨hP, hD⟩ := h9R
                        refine va_mmin hx hb (hml.trans hl.1.symm) hown (hts (.methodLink RX5 110 Lib.Math.min.name) (List.mem_of_getElem? (i := 4) rfl)) (hts _ (List.mem_of_getElem? (i := 5) rfl)) (hts _ (List.mem_of_getElem? (i := 6) rfl)) (hts _ (List.mem_of_getElem? (i := 7) rfl)) (Nat.le_of_ble_eq_true rfl) (Nat.le_of_ble_eq_true rfl) (Nat.le_of_ble_eq_true rfl) (Nat.le_of_ble_eq_true rfl) dX5_least_124 ?_
                        refine lv_topi (fun x_78 ex_78 => ?_)
                        have qx_78 := zf_min ex_78 (x1 := v_49.toInt) (y1 := r_75.toInt) rfl rfl
                        refine lv_istore (lv' := [(6, .int x_78), (8, .ref u_72), (7, .int i_85), (5, .int x_43), (4, .int 1), (0, .ref w0), (1, .int 4), (2, .int d), (3, .int sec)]) hx hb dX5_least_127 hl (by decide) rfl (fun ls hl => ?_)
                        obtain ⟨x_79, ex_79⟩ : ∃ y : Int32, y = i_85 + 1 := ⟨_, rfl⟩
                        have qx_79 : x_79.toInt = i_85.toInt + 1 := dw_inc ex_79 fc_53
                        refine lv_iinc (v := x_79) (lv' := [(7, .int x_79), (6, .int x_78), (8, .ref u_72), (5, .int x_43), (4, .int 1), (0, .ref w0), (1, .int 4), (2, .int d), (3, .int sec)]) hx hb dX5_least_129 hl (k := 2) rfl ex_79.symm (by decide) rfl (fun ls hl => ?_)
                        refine lv_goto (tgt := 85) hx hb dX5_least_132 (by decide) ?_
                        exact ih x_79 x_78 (q_77) _ _ _ (hP.sub [0, 1, 2, 3] rfl) (hD.sub [0, 1, 2, 3] (by decide) rfl) hS (lv_sub hl [0, 1, 3, 4, 5, 6, 7, 8] rfl) (dw_lo hloi_85 qx_79) (dw_hn hni_85 qx_79)
              · have fc_46 : x_45.toInt ≠ (-1) := zf_ne c_46 rfl (by decide)
                refine lv_aload_n hx hb dX5_least_66 rfl (lv_at hl 2 rfl) ?_
                refine va_get (D := D) (ci := 5) (v := .ref wl) (C := RX5) (T := TX5) (N := 7) hx hb hts hi_X5_least_5 hown hK hP 0 rfl rfl 1 (by decide) (hts (.fieldLink RX5 15 "TheLiningsInIt$Ways" "knownLeast" "[I") (List.mem_of_getElem? (i := 2) rfl)) (fun _ h9 => h9) rfl dX5_least_67 ?_
                refine lv_iload hx hb dX5_least_70 (lv_at hl 0 rfl) ?_
                refine va_iald hx hb hK hP 1 0 rfl rfl (zf_in (by omega) (by omega)) dX5_least_72 ?_
                refine lv_topi (fun x_80 ex_80 => ?_)
                exact W.iret (v := x_80) hx hb hr (fun t ht hW => ⟨⟨x_80, fl, rfl, trivial, zRet ht hP hD [0, 1, 2, 3] (by decide) rfl⟩, hS.F ht⟩) hS.2.2 dX5_least_73
        · exfalso; have fc_4 : 24 < d.toInt := zf_nle c_4 rfl (by decide); omega

